section
/-! both readers: a row more, all of it -/
theorem STK.mem {S : CS} {s : RS} : ∀ (L : List CEL) (m e k : Int), STK S s L m e k → ∀ q ∈ L, ∃ m1 e1 k1 m2 e2 k2 : Int, CST S s q m1 e1 k1 m2 e2 k2
  | [], _, _, _, _, q, hq => absurd hq List.not_mem_nil
  | c :: L, m, e, k, h, q, hq => by
    obtain ⟨m', e', k', h1, -, h3⟩ := h
    rcases List.mem_cons.mp hq with rfl | hq
    · exact ⟨m, e, k, m', e', k', h1⟩
    · exact STK.mem L m' e' k' h3 q hq
theorem STK.ids {S : CS} {s : RS} {L : List CEL} {m e k : Int} (h : STK S s L m e k) : ∀ q ∈ L, isTy (S.o q.2.1 0) → 0 ≤ (s.a 66 (ceT q)).toInt ∧ (s.a 66 (ceT q)).toInt < (s.i 29).toInt := fun q hq t => by
  obtain ⟨m1, e1, k1, m2, e2, k2, g⟩ := STK.mem L m e k h q hq
  exact (g.2.2.1.2.2.2.2.2.2.2.2.2.2.2.2 t).1.2.1
/-- from S, s (where the statement began); P, sp: before the row is pushed -/
theorem COR.push {d : Int32} {B : CS} {b : RS} {t0 T : Nat} {L : List CEL} {x x1 : Int} {S P R : CS} {s sp u : RS} {c c1 : CEL} (h : COR d B b t0 (c :: L) x S s) (hin : INL S s T (c :: L)) (hT : t0 ≤ T) (ev : ENV d R u) (f : FRB T s u) (tb : TBR s u) (cd : CDK (s.i 20).toInt s u) (nm : u.i 2 = s.i 2 ∧ u.i 3 = s.i 3 ∧ u.i 8 = s.i 8 ∧ u.a 1 = s.a 1 ∧ u.a 4 = s.a 4 ∧ u.b 9 = s.b 9) (l43 : (s.i 43).toInt ≤ (u.i 43).toInt) (l56 : (s.i 56).toInt ≤ (u.i 56).toInt) (ck : CKZ S R) (jP : JMQ P sp (c :: L) (b.i 59).toInt (b.i 29).toInt) (hinP : INL P sp T (c :: L)) (eP : ∀ y ∈ c :: L, R.o y.2.1 = P.o y.2.1) (fP : FRB T sp u) (gP : ∀ y ∈ c :: L, isGo (P.o y.2.1 0) → ∀ v : Int, flg u (ceG y) v = flg sp (ceG y) v) (bP : (b.i 29).toInt ≤ (sp.i 29).toInt ∧ (∀ y ∈ c :: L, isTy (P.o y.2.1 0) → (sp.a 66 (ceT y)).toInt < (sp.i 29).toInt) ∧ (∀ j : Nat, (j : Int) < (sp.i 59).toInt → (sp.a 62 j).toInt < (sp.i 29).toInt)) (nP : 0 ≤ (P.i 54).toInt ∧ 0 ≤ (P.i 55).toInt) (e54 : (R.i 54).toInt = (P.i 54).toInt + 1) (e55 : R.i 55 = P.i 55) (e52 : R.a 52 = P.a 52) (i38 : (R.i 38).toInt = (S.i 38).toInt + (nDp (R.o c1.2.1 0) : Int)) (l53 : (S.i 53).toInt ≤ (R.i 53).toInt) (rt : RTE S R) (q : (s.i 11).toInt ≤ (u.i 11).toInt ∧ phI s + dbt (R.o c1.2.1 0) ≤ phI u ∧ (s.i 17).toInt ≤ (u.i 17).toInt ∧ (u.i 19).toInt = (s.i 19).toInt + (nSg (R.o c1.2.1 0) : Int)) (q54 : (R.i 54).toInt ≤ (u.i 11).toInt + 1) (q21 : (R.i 21).toInt ≤ 3 * (u.i 11).toInt) (n8 : 8 * ((u.i 38).toInt - 2) ≤ (u.i 11).toInt) (l38 : (s.i 38).toInt ≤ (u.i 38).toInt) (e59 : u.i 59 = sp.i 59) (e60 : u.a 60 = sp.a 60) (e61 : u.a 61 = sp.a 61) (e62 : u.a 62 = sp.a 62)
    (cst : CST R u c1 (R.i 22).toInt (u.i 24).toInt (u.i 33).toInt (R.i 22).toInt (u.i 24).toInt (u.i 33).toInt) (lnk : LNK R c1 c) (low : LOW R u c) (lb : LBC R u (c1 :: c :: L) x1) (iar : IAR R u) (hcol : ∃ col : Nat → Option (Nat × Bool), COL R u (c1 :: c :: L) col (b.i 20).toInt) (s1 : (R.o c1.2.1 1).toInt = (P.i 54).toInt + 1) (s14 : R.o c1.2.1 14 = P.i 55) (n216 : ¬ R.o c1.2.1 0 = 216) (hg : isGo (R.o c1.2.1 0) → ∀ b : Int, flg u (ceG c1) b = 0) (hy : isTy (R.o c1.2.1 0) → (u.a 66 (ceT c1)).toInt = (sp.i 29).toInt) (e56 : R.i 56 = S.i 56) (g3 : R.o c1.2.1 3 = S.i 50) : COR d B b t0 (c1 :: c :: L) x1 R u := by
  obtain ⟨h1, h2, h3, h4, h5, ⟨h6, h7, h8, h9⟩, ⟨h10, h11, h12, hsg⟩, h13, ⟨h14, h15, h16⟩, h17, ⟨h18, h19, h20, -⟩⟩ := h
  have eo := fun c hc => (hin.o ck c hc).1
  obtain ⟨d1, d2⟩ := DSM.eq (c :: L) eo
  have ord := STK.ord L c _ _ _ h2
  have n1 := lnk.1
  have hn : ∀ y ∈ c :: L, y.1 < c1.1 := fun y hy => by
    rcases List.mem_cons.mp hy with rfl | hy
    · omega
    · have := ord y hy
      omega
  have st : STK R u (c :: L) (R.i 22).toInt (u.i 24).toInt (u.i 33).toInt := by
    have z := STK.mv ck f tb cd (c :: L) _ _ _ h2 hin (Int.le_refl _) (Int.le_refl _) (Int.le_refl _)
    rw [ck.1]
    exact z.hi (tb.2.2.2.2.2.2.2.2.2.1) (tb.2.2.2.2.2.2.2.1)
  have jq : JMQ R u (c1 :: c :: L) (b.i 59).toInt (b.i 29).toInt := jP.push hinP eP e55 e52 e54 fP gP e59 e60 e61 e62 nP s1 s14 hn n216 hg hy bP.1 bP.2.1 bP.2.2
  refine ⟨ev, st.push cst lnk low, jq, lb, h5.mv ck rt (by have := h5.2.2.1; omega) e56, ⟨h6.tr (f.mo hT), h7.mv tb (by have := h7.1; omega) (by have := h7.2.1; omega) (by have := h7.2.2.1; omega), h8.tr (cd.wk h8.1), ⟨nm.1.trans h9.1, nm.2.1.trans h9.2.1, nm.2.2.1.trans h9.2.2.1, nm.2.2.2.1.trans h9.2.2.2.1, nm.2.2.2.2.1.trans h9.2.2.2.2.1, nm.2.2.2.2.2.trans h9.2.2.2.2.2⟩⟩, ⟨by omega, ?_, by omega, ?_⟩, ?_, ⟨q21, n8, q54⟩, iar, h18, h19, h20, hcol⟩
  · show phI b + (dbt (R.o c1.2.1 0) + PDM R (c :: L)) ≤ phI u
    rw [d2]
    omega
  · show (u.i 19).toInt = (b.i 19).toInt + ((nSg (R.o c1.2.1 0) : Int) + SSM R (c :: L))
    rw [SSM.eo (c :: L) eo]
    omega
  · refine ⟨?_, ?_⟩
    · show (R.i 38).toInt = (B.i 38).toInt + ((nDp (R.o c1.2.1 0) : Int) + DSM R (c :: L))
      rw [d1, i38, h13.1]
      omega
    · have l50 : (S.i 50).toInt ≤ (R.i 50).toInt := by
        rw [h1.2.1.1, ev.2.1.1]
        exact l38
      have b50 : (b.i 38).toInt ≤ (S.i 50).toInt := by
        rw [h1.2.1.1]
        exact h7.1
      refine ⟨fun y hy2 => ?_, fun y hy2 z hz2 l => ?_, ?_, fun y hy2 => ⟨fun t z => ?_, fun t z => ?_⟩⟩
      · rcases List.mem_cons.mp hy2 with e0 | hy2
        · rw [e0, g3]
          exact ⟨b50, l50⟩
        · rw [eo y hy2]
          have := h13.2.1 y hy2
          omega
      · rcases List.mem_cons.mp hy2 with e0 | hy2
        · rcases List.mem_cons.mp hz2 with e3 | hz2
          · rw [e0, e3]
            exact Int.le_refl _
          · have := hn z hz2
            rw [e0] at l
            omega
        · rcases List.mem_cons.mp hz2 with e3 | hz2
          · rw [e3, g3, eo y hy2]
            exact (h13.2.1 y hy2).2
          · rw [eo y hy2, eo z hz2]
            exact h13.2.2.1 y hy2 z hz2 l
      · have z := h13.2.2.2.1
        rw [← cfl.eq (c :: L) _ eo, ← ck.1] at z
        have e1 : cfl R (c1 :: c :: L) (R.i 22).toInt = cfl R (c :: L) (if R.o c1.2.1 0 = 218 then (R.o c1.2.1 13).toInt else (R.i 22).toInt) := rfl
        rw [e1]
        by_cases k : R.o c1.2.1 0 = 218
        · rw [if_pos k, ← (cst.2.2.2.2.1 k).1]
          exact z
        · rw [if_neg k]
          exact z
      · rcases List.mem_cons.mp hy2 with e0 | hy2
        · rw [e0] at t z
          exfalso
          obtain ⟨-, Lk, -, -, ⟨x6, -⟩, x7⟩ := cst.2.2.2.2.2.2 t
          cases Lk with
          | nil =>
            have := x6 rfl
            omega
          | cons j Lk =>
            have := x7 j List.mem_cons_self
            omega
        · rw [eo y hy2] at t
          rw [(FRB72 hin f y hy2).1] at z ⊢
          exact (h13.2.2.2.2 y hy2).1 t z
      · rcases List.mem_cons.mp hy2 with e0 | hy2
        · rw [e0] at t z
          exfalso
          obtain ⟨-, -, -, Le, -, -, ⟨x6, -⟩, x7⟩ := cst.2.2.2.2.1 t
          cases Le with
          | nil =>
            have := x6 rfl
            omega
          | cons j Le =>
            have := x7 j List.mem_cons_self
            omega
        · rw [eo y hy2] at t
          rw [(FRB72 hin f y hy2).2] at z ⊢
          exact (h13.2.2.2.2 y hy2).2 t z
/-- the jumps, where the row is pushed right away -/
theorem COR.jp {d : Int32} {B : CS} {b : RS} {t0 : Nat} {L : List CEL} {x : Int} {S : CS} {s : RS} (h : COR d B b t0 L x S s) : ((b.i 29).toInt ≤ (s.i 29).toInt ∧ (∀ y ∈ L, isTy (S.o y.2.1 0) → (s.a 66 (ceT y)).toInt < (s.i 29).toInt) ∧ (∀ j : Nat, (j : Int) < (s.i 59).toInt → (s.a 62 j).toInt < (s.i 29).toInt)) ∧ 0 ≤ (S.i 54).toInt ∧ 0 ≤ (S.i 55).toInt := by
  obtain ⟨h1, h2, h3, h4, h5, ⟨h6, h7, h8, h9⟩, -⟩ := h
  have sj := h1.sj
  exact ⟨⟨h7.2.2.2.2.2.2.2.2.1, fun y hy z => (h2.ids y hy z).2, h1.wp.2⟩, sj.1, sj.2.2.1⟩
end
section
/-! both readers: a statement in a row -/
theorem wid1 (v : Int32) : 1 ≤ wid v := by
  unfold wid
  by_cases c1 : v = 301 ∨ v = 302 ∨ v = 218
  · rw [if_pos c1]; decide
  · rw [if_neg c1]
    by_cases c2 : v = 212 ∨ v = 213 ∨ v = 215 ∨ v = 216
    · rw [if_pos c2]; decide
    · rw [if_neg c2]; exact Nat.le_refl _
theorem qj_44 {s u : RS} (h : qj u = qj s) : u.a 44 = s.a 44 := by
  obtain ⟨-, -, -, -, -, -, -, -, -, -, -, -, -, -, -, -, -, -, -, -, -, -, -, -, -, -, -, -, -, a44, -⟩ := qj_eq h
  exact a44
theorem qj_p {s u : RS} (h : qj u = qj s) : u.i 59 = s.i 59 ∧ u.a 60 = s.a 60 ∧ u.a 61 = s.a 61 ∧ u.a 62 = s.a 62 ∧ u.i 29 = s.i 29 := by
  obtain ⟨-, -, -, -, -, i29, -, -, -, i43, -, -, -, -, i56, i59, -, -, -, -, -, -, -, -, -, -, -, -, -, -, -, -, -, -, -, -, -, a58, a60, a61, a62, -⟩ := qj_eq h
  exact ⟨i59, a60, a61, a62, i29⟩
/-- a statement is to begin in row c: its frame T stands on top -/
def STO (c : CEL) (T : Nat) (S : CS) (s : RS) : Prop := TOP S s c ∧ LOW S s c ∧ T = ceT c + wid (S.o c.2.1 0) ∧ tpI s = (T : Int) ∧ s.a 64 T = 2 ∧ s.a 65 T = 0
theorem LOW.mv {S R : CS} {s u : RS} {c : CEL} {T : Nat} (h : LOW S s c) (eo : R.o c.2.1 = S.o c.2.1) (f : FRB T s u) (hT : ceT c + wid (S.o c.2.1 0) ≤ T) : LOW R u c := by
  obtain ⟨b1, b2, b3, b4⟩ := h
  have w1 := wid1 (S.o c.2.1 0)
  unfold LOW
  rw [eo]
  refine ⟨b1, fun q => ?_, fun q => ?_, b4⟩
  · have w2 : wid (S.o c.2.1 0) = 2 := by
      unfold wid
      rw [if_pos (Or.inr (Or.inr q))]
    obtain ⟨x1, x2⟩ := b2 q
    exact ⟨(f (ceT c) (by omega)).2.1.trans x1, (f (ceT c + 1) (by omega)).1.trans x2⟩
  · have z := f (ceT c + wid (S.o c.2.1 0) - 1) (by omega)
    exact ⟨z.2.1.trans (b3 q).1, z.1.trans (b3 q).2⟩
theorem TOP.mv {S R : CS} {s u : RS} {c : CEL} (h : TOP S s c) (eo : R.o c.2.1 = S.o c.2.1) (e53 : R.i 53 = S.i 53) (e43 : u.i 43 = s.i 43) (e56 : u.i 56 = s.i 56) : TOP R u c := by
  unfold TOP at *
  rw [eo, e53, e43, e56]
  exact h
theorem COR.inl {d : Int32} {B : CS} {b : RS} {t0 T : Nat} {L : List CEL} {x : Int} {S : CS} {s : RS} {c : CEL} (h : COR d B b t0 (c :: L) x S s) (ht : TOP S s c) (hT : T = ceT c + wid (S.o c.2.1 0)) : INL S s T (c :: L) := by
  rw [hT]
  exact STK.inl L c _ _ _ h.2.1 (by have := ht.1; omega) (by have := ht.2.1; omega) (by have := ht.2.2; omega)
/-- the statement is done: the row goes on -/
theorem st_done {d : Int32} {B : CS} {b : RS} {t0 T : Nat} {L : List CEL} {x : Int} {S S1 R : CS} {s s1 u : RS} {c : CEL} (hC : COR d B b t0 (c :: L) x S s) (hS : STO c T S s) (hT : t0 ≤ T) (f1 : FRB T s s1) (k1 : TBK s s1) (z1 : CKZ S S1) (j1 : S1.i 38 = S.i 38 ∧ S1.i 53 = S.i 53 ∧ S1.i 56 = S.i 56) (r1 : RTE S S1) (l1 : (s.i 11).toInt ≤ (s1.i 11).toInt ∧ (s.i 17).toInt ≤ (s1.i 17).toInt ∧ s1.i 19 = s.i 19 ∧ phI s ≤ phI s1 + 1) (h : DON d T S1 s1 R u) : COR d B b t0 (c :: L) x R u ∧ TOP R u c ∧ LOW R u c ∧ tpI u = (T : Int) - 1 ∧ (u.i 75 = R.i 36 ∧ (R.i 36 = 0 ∨ R.i 36 = 1)) ∧ T = ceT c + wid (R.o c.2.1 0) := by
  obtain ⟨h1, h2, h3, h4, h5, h6, h7, h8, h9, ⟨h10, h11, h12, h13⟩, h14, h15, h16⟩ := h
  obtain ⟨q1, q2, q3, q4, q5, q6⟩ := hS
  have hin := hC.inl q1 q3
  obtain ⟨t1, t2, t3, t4, t5, t6, t7, t8, t9, t10⟩ := k1.1.1
  obtain ⟨m1, m2, m3, m4, m5, m6, m7, m8, m9⟩ := h6
  have tb : TBR s u := k1.1.r.tr h4 (by rw [t4]; exact Int.le_refl _) (by rw [t5]; exact Int.le_refl _) (by rw [t7]; exact Int.le_refl _)
  have cd : CDK (s.i 20).toInt s u := k1.2.tr (h5.wk k1.2.1)
  have ck : CKZ S R := by
    obtain ⟨c1, c2, c3, c4, c5, c6, c7, c8⟩ := z1
    obtain ⟨d1, d2, d3, d4, d5, d6, d7, d8⟩ := h7
    have e53 := j1.2.1
    refine ⟨d1.trans c1, fun k hk => (d2 k (by rw [e53]; exact hk)).trans (c2 k hk), fun k a hk ha => ?_, fun k hk => (d4 k (by rw [c1]; exact hk)).trans (c4 k hk), by omega, by omega, fun k hk => (d7 k (by omega)).trans (c7 k hk), fun k k1 k2 => ?_⟩
    · have e := c3 k a hk ha
      have g := d3 k a (by rw [e53]; exact hk) ((c2 k hk).trans ha)
      exact ⟨g.1.trans e.1, g.2.trans e.2⟩
    · by_cases z : (k : Int) < (S1.i 55).toInt
      · rw [d7 k z]
        rcases c8 k k1 z with y | y
        · exact Or.inl y
        · exact Or.inr ⟨y.1, by omega⟩
      · rcases d8 k (by omega) k2 with y | y
        · exact Or.inl y
        · exact Or.inr ⟨by omega, y.2⟩
  have rt : RTE S R := by
    unfold RTE at *
    omega
  have f : FRB T s u := f1.tr h3
  have n8 := hC.2.2.2.2.2.2.2.2.1.2.1
  have eo := (hin.o ck c List.mem_cons_self).1
  have w := q3
  refine ⟨hC.mv hin hT h1 f tb cd ⟨m1.trans t1, m2.trans t2, m3.trans t3, m4.trans t5, m5.trans t6, m6.trans t7, m7.trans t8, m8.trans t9, m9.trans t10⟩ ck ⟨h8.1.trans j1.1, h8.2.1.trans j1.2.1, h8.2.2.trans j1.2.2⟩ rt ⟨by omega, by omega, by omega, by rw [h13, l1.2.2.1]⟩ (h15 (by rw [t4]; omega)) (by rw [t4] at h16; exact h16), q1.mv eo (h8.2.1.trans j1.2.1) (m4.trans t5) (m6.trans t7), q2.mv eo f (by omega), h2, h14, by rw [eo]; exact w⟩
/-- the class, before a statement: alive, one more -/
theorem stm_z (S : CS) (v : Int32) : CKZ S (CS.setI (CS.setI S 36 1) 24 v) ∧ RTE S (CS.setI (CS.setI S 36 1) 24 v) := ⟨⟨rfl, fun _ _ => rfl, fun _ _ _ _ => ⟨rfl, rfl⟩, fun _ _ => rfl, Int.le_refl _, Int.le_refl _, fun _ _ => rfl, fun k h1 h2 => absurd (show (k : Int) < (S.i 55).toInt from h2) (by omega)⟩, ⟨Int.le_refl _, Int.le_refl _, Int.le_refl _⟩⟩
theorem stm_r {s : RS} {t : Nat} {v K : Int32} : FRB t s (RS.setA (RS.setI s 53 v) 64 t K) ∧ TBK s (RS.setA (RS.setI s 53 v) 64 t K) := by
  refine ⟨fun j hj => ⟨setA_ne (by omega), rfl, rfl, rfl, rfl, rfl, rfl, rfl, rfl, rfl, rfl⟩, ⟨⟨rfl, rfl, rfl, rfl, rfl, rfl, rfl, rfl, rfl, rfl⟩, fun _ _ => ⟨rfl, rfl, rfl⟩, fun _ _ => ⟨rfl, rfl, rfl, rfl, rfl, rfl, rfl, rfl⟩, fun _ _ => ⟨rfl, rfl⟩, ⟨Int.le_refl _, fun j h1 h2 => absurd (show (j : Int) < (s.i 59).toInt from h2) (by omega)⟩, fun _ _ => ⟨rfl, rfl, rfl⟩, Int.le_refl _, fun _ _ => rfl, Int.le_refl _, fun _ _ => ⟨rfl, rfl⟩, Int.le_refl _, fun _ _ => ⟨rfl, rfl, rfl⟩⟩, Int.le_refl _, fun _ _ => rfl⟩
end
section
/-! both readers: the code of the rows that are open -/
/-- what is seen of a row: the class's fields, its frame's, place, goal -/
def RVW : Type := (Nat → Int32) × (Nat → Int32) × Nat × Nat
def RVW.v (r : RVW) : Int32 := r.1 0
def vw (S : CS) (s : RS) (c : CEL) : RVW := (fun k => if k = 5 then 0 else S.o c.2.1 k, fun k => if 66 ≤ k ∧ k ≤ 73 then s.a k (ceT c) else if 1000 ≤ k ∧ (k : Int) - 1000 < (S.o c.2.1 3).toInt then s.a 40 (k - 1000) else 0, c.1, ceG c)
/-- values, level, the handlers' level, what is open -/
def JCT : Type := Nat × Nat × Nat × List Ent
def JCT.h (j : JCT) : Nat := j.1
def JCT.l (j : JCT) : Nat := j.2.1
def JCT.t (j : JCT) : Nat := j.2.2.1
def JCT.c (j : JCT) : List Ent := j.2.2.2
def jlv (v : Int32) : Nat := if v = 205 ∨ v = 206 ∨ v = 304 then 2528 else if v = 207 then 3792 else if v = 212 ∨ v = 218 ∨ v = 216 then 1264 else if v = 213 ∨ v = 215 then 1265 else 0
/-- ghosts of a row: two numbers; a switch's entries: target, place -/
def GHT : Type := Nat → Nat × Nat × List (Int32 × Nat)
def jen (G : GHT) (ω : Nat) (r : RVW) (h l : Nat) : List Ent := if r.v = 212 then [(0, h, 0, 0, 0, 0, 0)] else if r.v = 213 then [(1, h, (r.1 9).toNatClampNeg - 2, (r.2.1 66).toNatClampNeg, (G r.2.2.1).1, 0, ω + l)] else if r.v = 215 then [(2, h, (r.1 9).toNatClampNeg - 2, (r.2.1 66).toNatClampNeg, (G r.2.2.1).1, (G r.2.2.1).2.1, ω + l)] else if r.v = 216 then [(3, h, (r.1 9).toNatClampNeg - 2, (r.2.1 66).toNatClampNeg, 0, 0, ω + l)] else if r.v = 304 then [(4, h, (G r.2.2.1).1, (G r.2.2.1).2.1, 0, 0, 0)] else []
def jty (v : Int32) (a b : Nat) : Nat := if v = 213 ∨ v = 215 ∨ v = 216 then a else b
def JCX (G : GHT) (ω h0 : Nat) (c0 : List Ent) : List RVW → JCT
  | [] => (h0, 0, 0, c0)
  | r :: V => ((JCX G ω h0 c0 V).h, (JCX G ω h0 c0 V).l + jlv r.v, jty r.v ((JCX G ω h0 c0 V).l + jlv r.v) (JCX G ω h0 c0 V).t, jen G ω r (JCX G ω h0 c0 V).h (JCX G ω h0 c0 V).l ++ (JCX G ω h0 c0 V).c)
theorem JCX.tl (G : GHT) (ω h0 : Nat) (c0 : List Ent) : ∀ V : List RVW, (JCX G ω h0 c0 V).t ≤ (JCX G ω h0 c0 V).l
  | [] => Nat.le_refl _
  | r :: V => by
    have ih := JCX.tl G ω h0 c0 V
    show jty r.v ((JCX G ω h0 c0 V).l + jlv r.v) (JCX G ω h0 c0 V).t ≤ (JCX G ω h0 c0 V).l + jlv r.v
    unfold jty
    by_cases q : r.v = 213 ∨ r.v = 215 ∨ r.v = 216
    · rw [if_pos q]
      exact Nat.le_refl _
    · rw [if_neg q]
      omega
def dfr (v : Int32) : Nat := if v = 212 ∨ v = 213 ∨ v = 215 ∨ v = 216 then 1 else 0
def dln (v : Int32) : Nat := if v = 212 ∨ v = 213 ∨ v = 215 ∨ v = 216 ∨ v = 304 then 1 else 0
def sfr : List RVW → Nat
  | [] => 0
  | r :: V => sfr V + dfr r.v
def sln : List RVW → Nat
  | [] => 0
  | r :: V => sln V + dln r.v
theorem frs.app : ∀ (a b : List Ent), frs (a ++ b) = frs a + frs b
  | [], b => (Nat.zero_add _).symm
  | e :: a, b => by
    show frs (a ++ b) + (if e.k ≤ 3 then 1 else 0) = (frs a + (if e.k ≤ 3 then 1 else 0)) + frs b
    rw [frs.app a b]
    omega
theorem jen.cnt {G : GHT} {ω : Nat} {r : RVW} {h l : Nat} : frs (jen G ω r h l) = dfr r.v ∧ (jen G ω r h l).length = dln r.v ∧ ∀ e ∈ jen G ω r h l, e.h = h ∧ (e.k = 1 ∨ e.k = 2 → e.u = ω + l ∧ isWl r.v ∧ e.y = (r.2.1 66).toNatClampNeg) := by
  unfold jen dfr dln
  by_cases q1 : r.v = 212
  · rw [if_pos q1, if_pos (Or.inl q1), if_pos (Or.inl q1)]
    refine ⟨rfl, rfl, fun e he => ?_⟩
    rw [List.mem_singleton.mp he]
    exact ⟨rfl, fun z => absurd (show (0 : Nat) = 1 ∨ (0 : Nat) = 2 from z) (by decide)⟩
  rw [if_neg q1]
  by_cases q2 : r.v = 213
  · rw [if_pos q2, if_pos (Or.inr (Or.inl q2)), if_pos (Or.inr (Or.inl q2))]
    refine ⟨rfl, rfl, fun e he => ?_⟩
    rw [List.mem_singleton.mp he]
    exact ⟨rfl, fun _ => ⟨rfl, Or.inl q2, rfl⟩⟩
  rw [if_neg q2]
  by_cases q3 : r.v = 215
  · rw [if_pos q3, if_pos (Or.inr (Or.inr (Or.inl q3))), if_pos (Or.inr (Or.inr (Or.inl q3)))]
    refine ⟨rfl, rfl, fun e he => ?_⟩
    rw [List.mem_singleton.mp he]
    exact ⟨rfl, fun _ => ⟨rfl, Or.inr (Or.inl q3), rfl⟩⟩
  rw [if_neg q3]
  by_cases q4 : r.v = 216
  · rw [if_pos q4, if_pos (Or.inr (Or.inr (Or.inr q4))), if_pos (Or.inr (Or.inr (Or.inr (Or.inl q4))))]
    refine ⟨rfl, rfl, fun e he => ?_⟩
    rw [List.mem_singleton.mp he]
    exact ⟨rfl, fun z => absurd (show (3 : Nat) = 1 ∨ (3 : Nat) = 2 from z) (by decide)⟩
  rw [if_neg q4]
  have n1 : ¬ (r.v = 212 ∨ r.v = 213 ∨ r.v = 215 ∨ r.v = 216) := fun z => by
    rcases z with z | z | z | z
    · exact q1 z
    · exact q2 z
    · exact q3 z
    · exact q4 z
  rw [if_neg n1]
  by_cases q5 : r.v = 304
  · rw [if_pos q5, if_pos (Or.inr (Or.inr (Or.inr (Or.inr q5))))]
    refine ⟨rfl, rfl, fun e he => ?_⟩
    rw [List.mem_singleton.mp he]
    exact ⟨rfl, fun z => absurd (show (4 : Nat) = 1 ∨ (4 : Nat) = 2 from z) (by decide)⟩
  rw [if_neg q5, if_neg (fun z => by
    rcases z with z | z | z | z | z
    · exact q1 z
    · exact q2 z
    · exact q3 z
    · exact q4 z
    · exact q5 z)]
  exact ⟨rfl, rfl, fun e he => absurd he List.not_mem_nil⟩
theorem JCX.cnt (G : GHT) (ω h0 : Nat) (c0 : List Ent) : ∀ V : List RVW, (JCX G ω h0 c0 V).h = h0 ∧ frs (JCX G ω h0 c0 V).c = frs c0 + sfr V ∧ (JCX G ω h0 c0 V).c.length = c0.length + sln V
  | [] => ⟨rfl, rfl, rfl⟩
  | r :: V => by
    obtain ⟨i1, i2, i3⟩ := JCX.cnt G ω h0 c0 V
    obtain ⟨j1, j2, -⟩ := jen.cnt (G := G) (ω := ω) (r := r) (h := (JCX G ω h0 c0 V).h) (l := (JCX G ω h0 c0 V).l)
    refine ⟨i1, ?_, ?_⟩
    · show frs (jen G ω r (JCX G ω h0 c0 V).h (JCX G ω h0 c0 V).l ++ (JCX G ω h0 c0 V).c) = frs c0 + (sfr V + dfr r.v)
      rw [frs.app, j1, i2]
      omega
    · show (jen G ω r (JCX G ω h0 c0 V).h (JCX G ω h0 c0 V).l ++ (JCX G ω h0 c0 V).c).length = c0.length + (sln V + dln r.v)
      rw [List.length_append, j2, i3]
      omega
/-- the depth at which each goal was made: the class's frames, the reference's entries -/
def NT5 (x : Int32) : Prop := 0 ≤ x.toInt ∧ x.toInt ≤ 5000
def isLo (v : Int32) : Prop := v = 205 ∨ v = 206 ∨ v = 207 ∨ v = 304
/-- where a loop's head stands in the reference -/
def RHP (v : Int32) (f : Nat → Int32) : Prop := (v = 205 ∨ v = 206 ∨ v = 304 → 0 ≤ (f 66).toInt) ∧ (v = 207 → 0 ≤ (f 70).toInt)
theorem RHP.no {v : Int32} {f : Nat → Int32} (h : ¬ (v = 205 ∨ v = 206 ∨ v = 207 ∨ v = 304)) : RHP v f := ⟨fun z => absurd (z.elim Or.inl (fun z => z.elim (fun z => Or.inr (Or.inl z)) (fun z => Or.inr (Or.inr (Or.inr z))))) h, fun z => absurd (Or.inr (Or.inr (Or.inl z))) h⟩
/-- a try's targets stand side by side -/
def TGT3 (r : RVW) : Prop := (r.1 9).toInt = (r.1 11).toInt + 1 ∧ 1 ≤ (r.1 11).toInt ∧ (r.v = 213 → (r.1 9).toInt = (r.1 10).toInt + 2) ∧ (r.v = 213 → (r.2.1 72).toInt < 0) ∧ (r.v = 215 → 0 ≤ (r.2.1 72).toInt)
/-- the names outside of a catch have other slots -/
def NB4 (w : Nat) (r : RVW) : Prop := ∀ k : Nat, (k : Int) < (r.1 3).toInt → ¬ (r.2.1 (1000 + k)).toInt = (w : Int)
def DPM (G : GHT) (f l : Nat) (s : RS) : List RVW → Prop
  | [] => True
  | r :: V => ((isGo r.v → ((r.1 2).toInt = ((f + sfr V : Nat) : Int) ∧ (s.a 47 r.2.2.2).toInt = ((l + sln (r :: V) : Nat) : Int)) ∧ NT5 (r.1 9) ∧ (isLo r.v → NT5 (r.1 10)) ∧ RHP r.v r.2.1) ∧ (dfr r.v = 1 → (r.1 2).toInt = ((f + sfr V : Nat) : Int) ∧ NT5 (r.1 9)) ∧ (isTy r.v → TGT3 r) ∧ (r.v = 215 → 3 * ((G r.2.2.1).2.2.length : Int) + 3 ≤ (s.i 11).toInt ∧ NB4 (G r.2.2.1).2.1 r)) ∧ DPM G f l s V
theorem nt5r {N : Nat} {S : CS} {w : Int32 × CS} (e : f_X0_newTarget N S = some w) (h : 0 ≤ (S.i 21).toInt ∧ (S.i 21).toInt ≤ 4000) : NT5 w.1 ∧ (w.2.i 21).toInt = (S.i 21).toInt + 1 := by
  unfold f_X0_newTarget at e
  have e1 : (1 : Int32).toInt = 1 := by decide
  have z1 : (S.i 21 + 1).toInt = (S.i 21).toInt + 1 := by
    rw [toInt_add (by rw [e1]; omega) (by rw [e1]; omega), e1]
  have z2 : (S.i 21 + 1 - 1).toInt = (S.i 21).toInt := by
    rw [toInt_sub (by rw [e1, z1]; omega) (by rw [e1, z1]; omega), e1, z1]
    omega
  cases e
  refine ⟨⟨?_, ?_⟩, ?_⟩
  · show 0 ≤ (S.i 21 + 1 - 1).toInt
    omega
  · show (S.i 21 + 1 - 1).toInt ≤ 5000
    omega
  · show (S.i 21 + 1).toInt = _
    exact z1
theorem nt5 {N : Nat} {d : Int32} {S : CS} {s : RS} {w : Int32 × CS} (ev : ENV d S s) (e : f_X0_newTarget N S = some w) : NT5 w.1 := (nt5r e ⟨ev.t21.1, by
  have h1 := ev.t21.2
  have h2 := (i11_hi ev).2
  omega⟩).1
theorem DPM.mv {G : GHT} {f l : Nat} {s u : RS} : ∀ (V : List RVW), DPM G f l s V → (∀ r ∈ V, isGo r.v → u.a 47 r.2.2.2 = s.a 47 r.2.2.2) → (s.i 11).toInt ≤ (u.i 11).toInt → DPM G f l u V
  | [], _, _, _ => True.intro
  | r :: V, h, g, m => ⟨⟨fun z => by rw [g r List.mem_cons_self z]; exact h.1.1 z, h.1.2.1, h.1.2.2.1, fun z => ⟨Int.le_trans (h.1.2.2.2 z).1 m, (h.1.2.2.2 z).2⟩⟩, DPM.mv V h.2 (fun q hq => g q (List.mem_cons_of_mem _ hq)) m⟩
theorem dln.two (v : Int32) : dln v = 0 ∨ dln v = 1 := by
  unfold dln
  split
  · exact Or.inr rfl
  · exact Or.inl rfl
theorem dfr.go {v : Int32} (h : isGo v) : dfr v = 0 := by
  unfold dfr
  rcases h with h | h | h | h | h | h <;> rw [h] <;> decide
/-- the class's target x and the reference's site y lead to good places -/
def PRT (FC : Nat → Prop) (SF : CS) (U : RS) (nm : Nat → Nat → Prop) (X : Als) (x y : Int32) (ω : Nat) (j : JCT) : Prop := ∃ p q : Nat, (cTg SF x).toInt = (p : Int) ∧ (U.a 22 y.toNatClampNeg).toInt = (q : Int) ∧ GU FC SF U nm X p q j.h (ω + j.l - p) 0 j.c
/-- as PRT, and not before another target -/
def PRB (FC : Nat → Prop) (SF : CS) (U : RS) (nm : Nat → Nat → Prop) (X : Als) (x y z : Int32) (ω : Nat) (j : JCT) : Prop := ∃ p q p1 : Nat, (cTg SF x).toInt = (p : Int) ∧ (U.a 22 y.toNatClampNeg).toInt = (q : Int) ∧ (cTg SF z).toInt = (p1 : Int) ∧ p1 ≤ p ∧ GU FC SF U nm X p q j.h (ω + j.l - p) 0 j.c
/-- a loop's head is good -/
def HED (FC : Nat → Prop) (SF : CS) (U : RS) (nm : Nat → Nat → Prop) (X : Als) (x y : Int32) (ω : Nat) (j : JCT) : Prop := ∃ p q : Nat, (cTg SF x).toInt = (p : Int) ∧ y.toInt = (q : Int) ∧ p ≤ 1200 ∧ GU2 FC SF U nm X p q j.h (ω + j.l + 1264 - p) j.c
/-- a level higher -/
def JCT.up (j : JCT) (d : Nat) : JCT := (j.h, j.l + d, j.t, j.c)
/-- with an entry more -/
def JCT.en (j : JCT) (c : List Ent) : JCT := (j.h, j.l, j.t, c ++ j.c)
/-- the tries between a jump and its row -/
def FCY (FC : Nat → Prop) (U : RS) (ys : List Nat) : Prop := ∀ y ∈ ys, 0 ≤ (U.a 31 y).toInt → FC y
def PRN (FC : Nat → Prop) (SF : CS) (U : RS) (nm : Nat → Nat → Prop) (X : Als) (x : Int32) (i : Nat) (ω : Nat) (j : JCT) : Prop := ∃ p q : Nat, (cTg SF x).toInt = (p : Int) ∧ (U.a 22 i).toInt = (q : Int) ∧ GU FC SF U nm X p q j.h (ω + j.l - p) 0 j.c
/-- where breaks and continues of a row lead: what is open there -/
def jbk (G : GHT) (ω : Nat) (r : RVW) (j : JCT) : JCT := if r.v = 304 then j.en (jen G ω r j.h j.l) else j
def jcn (G : GHT) (ω : Nat) (r : RVW) (j : JCT) : JCT := if r.v = 206 ∨ r.v = 207 then j.up 2528 else (jbk G ω r j).up 1264
/-- the jumps to a row -/
def JGL (FC : Nat → Prop) (SF : CS) (U : RS) (nm : Nat → Nat → Prop) (X : Als) (G : GHT) (col : Nat → Option (Nat × Bool)) (YJ : Nat → List Nat) (ω : Nat) (r : RVW) (j : JCT) : Prop := ∀ i : Nat, FCY FC U (YJ i) → (col i = some (r.2.2.2, true) → PRN FC SF U nm X (r.1 9) i ω (jbk G ω r j)) ∧ (col i = some (r.2.2.2, false) → PRN FC SF U nm X (r.1 10) i ω (jcn G ω r j))
/-- a switch's head -/
def SWH (FC : Nat → Prop) (SF : CS) (U : RS) (nm : Nat → Nat → Prop) (X : Als) (G : GHT) (ω : Nat) (r : RVW) (j : JCT) : Prop := GU FC SF U nm X (G r.2.2.1).1 (r.2.1 66).toNatClampNeg (j.h + 1) (ω + j.l + 2528 - (G r.2.2.1).1) 0 j.c
/-- a catch: the handlers behind it, and its finally, closely -/
def HRB (FC : Nat → Prop) (SF : CS) (U : RS) (nm : Nat → Nat → Prop) (X : Als) (G : GHT) (ω : Nat) (r : RVW) (j : JCT) : Prop := ∀ e ∈ jen G ω r j.h j.l, ∃ n p : Nat, (n + (G r.2.2.1).2.2.length ≤ 300 ∧ ∀ z ∈ (G r.2.2.1).2.2, z.2 ≤ p) ∧ (cTg SF (r.1 10)).toInt = (p : Int) ∧ HRW SF U (GU FC SF U nm X) e j.c (ω + (j.l + 1265) - (p + 2)) n p (U.a 37 (r.2.1 72).toNatClampNeg) ∧ HFN SF U (GU FC SF U nm X) e j.c (ω + (j.l + 1265) - (p + 2))
/-- where a try's next handler will be hung -/
def khd (U : RS) (r : RVW) : Int32 := if (r.2.1 72).toInt < 0 then U.a 30 (r.2.1 66).toNatClampNeg else U.a 37 (r.2.1 72).toNatClampNeg
/-- a try's rows: its handlers, its finally, its exit -/
def TRH (FC : Nat → Prop) (SF : CS) (U : RS) (nm : Nat → Nat → Prop) (X : Als) (G : GHT) (ω : Nat) (r : RVW) (j : JCT) : Prop := (∀ e ∈ jen G ω r j.h j.l, (e.k = 1 → HBD SF U (GU FC SF U nm X) e j.c (ω + (j.l + jlv r.v))) ∧ (e.k = 1 ∨ e.k = 2 → HFN SF U (GU FC SF U nm X) e j.c (ω + (j.l + jlv r.v)))) ∧ (r.1 6 = 1 → (U.a 31 (r.2.1 66).toNatClampNeg).toInt < 0 ∨ FC (r.2.1 66).toNatClampNeg → ∃ p q : Nat, (cTg SF (r.1 9)).toInt = (p : Int) ∧ (U.a 32 (r.2.1 66).toNatClampNeg).toInt = (q : Int) ∧ GU FC SF U nm X p q j.h (ω + j.l - p) 0 j.c) ∧ (r.v = 215 → HRB FC SF U nm X G ω r j) ∧ (r.v = 216 → (U.a 31 (r.2.1 66).toNatClampNeg).toInt = ((G r.2.2.1).1 : Int) ∧ (khd U r).toInt < 0) ∧ (r.v = 215 ∨ r.v = 216 → ∀ z ∈ (G r.2.2.1).2.2, U.a 30 (r.2.1 66).toNatClampNeg = z.1)
/-- what a row waits for (j: what is open outside of it) -/
def JRH (FC : Nat → Prop) (SF : CS) (U : RS) (nm : Nat → Nat → Prop) (X : Als) (G : GHT) (col : Nat → Option (Nat × Bool)) (YJ : Nat → List Nat) (ω : Nat) (r : RVW) (j : JCT) : Prop := (r.v = 203 → PRT FC SF U nm X (r.1 10) (r.2.1 66) ω j) ∧ (r.v = 204 → r.1 6 = 1 → PRB FC SF U nm X (r.1 9) (r.2.1 68) (r.1 10) ω j) ∧ (r.v = 205 → (r.1 7 = 0 → PRT FC SF U nm X (r.1 9) (r.2.1 67) ω j) ∧ HED FC SF U nm X (r.1 10) (r.2.1 66) ω j) ∧ (r.v = 206 → HED FC SF U nm X (r.1 11) (r.2.1 66) ω j) ∧ (r.v = 207 → (r.1 7 = 0 → PRT FC SF U nm X (r.1 9) (r.2.1 67) ω j) ∧ HED FC SF U nm X (r.1 10) (r.2.1 70) ω (j.up 1264)) ∧ (r.v = 304 → PRT FC SF U nm X (r.1 9) (r.2.1 66) ω (j.en (jen G ω r j.h j.l)) ∧ HED FC SF U nm X (r.1 10) (r.2.1 66) ω (j.en (jen G ω r j.h j.l))) ∧ (r.v = 218 → SWH FC SF U nm X G ω r j) ∧ (isTy r.v → TRH FC SF U nm X G ω r j) ∧ (isGo r.v → JGL FC SF U nm X G col YJ ω r j)
def JRS (FC : Nat → Prop) (SF : CS) (U : RS) (nm : Nat → Nat → Prop) (X : Als) (G : GHT) (col : Nat → Option (Nat × Bool)) (YJ : Nat → List Nat) (ω h0 : Nat) (c0 : List Ent) : List RVW → Prop
  | [] => True
  | r :: V => JRH FC SF U nm X G col YJ ω r (JCX G ω h0 c0 V) ∧ JRS FC SF U nm X G col YJ ω h0 c0 V
theorem JCX.tm (G : GHT) (ω h0 : Nat) (c0 : List Ent) (r : RVW) (V : List RVW) : (JCX G ω h0 c0 V).t ≤ (JCX G ω h0 c0 (r :: V)).t := by
  have tl := JCX.tl G ω h0 c0 V
  show (JCX G ω h0 c0 V).t ≤ jty r.v ((JCX G ω h0 c0 V).l + jlv r.v) (JCX G ω h0 c0 V).t
  unfold jty
  by_cases q : r.v = 213 ∨ r.v = 215 ∨ r.v = 216
  · rw [if_pos q]
    omega
  · rw [if_neg q]
    exact Nat.le_refl _
theorem TYC.app {s0 : CS} {r0 : RS} {A : Als} {W : Nat} {c : List Ent} : ∀ {l : List Ent}, TYC s0 r0 A W c → (∀ e ∈ l, l = [e] ∧ (e.k = 1 → HBD s0 r0 A e c W) ∧ (e.k = 1 ∨ e.k = 2 → HFN s0 r0 A e c W)) → TYC s0 r0 A W (l ++ c)
  | [], h, _ => h
  | e :: l, h, g => by
    obtain ⟨g1, g2, g3⟩ := g e List.mem_cons_self
    have hl : l = [] := (List.cons.inj g1).2
    rw [hl]
    exact ⟨g2, g3, h⟩
theorem jen.one {G : GHT} {ω : Nat} {r : RVW} {h l : Nat} : ∀ e ∈ jen G ω r h l, jen G ω r h l = [e] ∧ (isTy r.v ∨ (¬ e.k = 1 ∧ ¬ e.k = 2)) := by
  intro e he
  unfold jen at he ⊢
  by_cases q1 : r.v = 212
  · rw [if_pos q1] at he ⊢
    rw [List.mem_singleton.mp he]
    exact ⟨rfl, Or.inr ⟨(by decide : ¬ (0 : Nat) = 1), (by decide : ¬ (0 : Nat) = 2)⟩⟩
  rw [if_neg q1] at he ⊢
  by_cases q2 : r.v = 213
  · rw [if_pos q2] at he ⊢
    rw [List.mem_singleton.mp he]
    exact ⟨rfl, Or.inl (Or.inl q2)⟩
  rw [if_neg q2] at he ⊢
  by_cases q3 : r.v = 215
  · rw [if_pos q3] at he ⊢
    rw [List.mem_singleton.mp he]
    exact ⟨rfl, Or.inl (Or.inr (Or.inl q3))⟩
  rw [if_neg q3] at he ⊢
  by_cases q4 : r.v = 216
  · rw [if_pos q4] at he ⊢
    rw [List.mem_singleton.mp he]
    exact ⟨rfl, Or.inl (Or.inr (Or.inr (Or.inr q4)))⟩
  rw [if_neg q4] at he ⊢
  by_cases q5 : r.v = 304
  · rw [if_pos q5] at he ⊢
    rw [List.mem_singleton.mp he]
    exact ⟨rfl, Or.inr ⟨(by decide : ¬ (4 : Nat) = 1), (by decide : ¬ (4 : Nat) = 2)⟩⟩
  rw [if_neg q5] at he
  exact absurd he List.not_mem_nil
theorem jty.ty {G : GHT} {ω : Nat} {r : RVW} {h l a b : Nat} {e : Ent} (he : e ∈ jen G ω r h l) (hk : e.k = 1 ∨ e.k = 2) : jty r.v a b = a := by
  have z := (jen.one e he).2
  unfold jen at he
  unfold jty
  by_cases q : r.v = 213 ∨ r.v = 215 ∨ r.v = 216
  · exact if_pos q
  · exfalso
    rcases z with z | z
    · rcases z with z | z | z | z
      · exact q (Or.inl z)
      · exact q (Or.inr (Or.inl z))
      · rw [if_neg (by rw [z]; decide), if_neg (by rw [z]; decide), if_neg (by rw [z]; decide), if_neg (by rw [z]; decide), if_neg (by rw [z]; decide)] at he
        exact absurd he List.not_mem_nil
      · exact q (Or.inr (Or.inr z))
    · rcases hk with hk | hk
      · exact z.1 hk
      · exact z.2 hk
theorem JRS.ty {FC : Nat → Prop} {SF : CS} {U : RS} {nm : Nat → Nat → Prop} {X : Als} {G : GHT} {col : Nat → Option (Nat × Bool)} {YJ : Nat → List Nat} {ω h0 : Nat} {c0 : List Ent} (h : TYC SF U (GU FC SF U nm X) ω c0) : ∀ (V : List RVW), JRS FC SF U nm X G col YJ ω h0 c0 V → TYC SF U (GU FC SF U nm X) (ω + (JCX G ω h0 c0 V).t) (JCX G ω h0 c0 V).c
  | [], _ => h
  | r :: V, z => by
    have ih := JRS.ty h V z.2
    have tm := JCX.tm G ω h0 c0 r V
    show TYC SF U (GU FC SF U nm X) _ (jen G ω r (JCX G ω h0 c0 V).h (JCX G ω h0 c0 V).l ++ (JCX G ω h0 c0 V).c)
    refine TYC.app (ih.up (by omega)) (fun e he => ?_)
    obtain ⟨e1, e2⟩ := jen.one e he
    refine ⟨e1, ?_, ?_⟩
    · intro hk
      have ty : isTy r.v := e2.resolve_right (fun w => w.1 hk)
      have w := ((z.1.2.2.2.2.2.2.2.1 ty).1 e he).1 hk
      have ej : (JCX G ω h0 c0 (r :: V)).t = (JCX G ω h0 c0 V).l + jlv r.v := jty.ty he (Or.inl hk)
      rw [ej]
      exact w
    · intro hk
      have ty : isTy r.v := e2.resolve_right (fun w => hk.elim w.1 w.2)
      have w := ((z.1.2.2.2.2.2.2.2.1 ty).1 e he).2 hk
      have ej : (JCX G ω h0 c0 (r :: V)).t = (JCX G ω h0 c0 V).l + jlv r.v := jty.ty he hk
      rw [ej]
      exact w
/-- good by its own unit: no place that is taken for good has the flag 5 -/
def HE5 (FC : Nat → Prop) (SF : CS) (U : RS) (nm : Nat → Nat → Prop) (X : Als) (x y : Int32) (ω : Nat) (j : JCT) : Prop := ∃ p q : Nat, (cTg SF x).toInt = (p : Int) ∧ y.toInt = (q : Int) ∧ p ≤ 1200 ∧ GU FC SF U nm X p q j.h (ω + j.l + 1264 - p) 5 j.c
/-- a switch's head: what stands there -/
def SWF (SF : CS) (U : RS) (G : GHT) (r : RVW) : Prop := SF.a 15 (G r.2.2.1).1 = 30 ∧ SF.a 16 (G r.2.2.1).1 = r.1 10 ∧ (G r.2.2.1).1 < 1200 ∧ U.a 21 (r.2.1 66).toNatClampNeg = 28 ∧ (((r.2.1 66).toNatClampNeg : Nat) : Int) < (U.i 20).toInt ∧ (U.i 20).toInt ≤ 3000
/-- a switch's entries are good -/
def SWE (FC : Nat → Prop) (SF : CS) (U : RS) (nm : Nat → Nat → Prop) (X : Als) (G : GHT) (ω : Nat) (r : RVW) (j : JCT) : Prop := ∀ z ∈ (G r.2.2.1).2.2, ∃ p : Nat, (cTg SF z.1).toInt = (p : Int) ∧ (p ≤ 1200 ∧ (G r.2.2.1).1 ≤ p) ∧ GU FC SF U nm X p z.2 j.h (ω + j.l + 1264 - p) 0 j.c
def JHH (FC : Nat → Prop) (SF : CS) (U : RS) (nm : Nat → Nat → Prop) (X : Als) (G : GHT) (ω : Nat) (r : RVW) (j : JCT) : Prop := (r.v = 205 → HE5 FC SF U nm X (r.1 10) (r.2.1 66) ω j) ∧ (r.v = 206 → HE5 FC SF U nm X (r.1 11) (r.2.1 66) ω j) ∧ (r.v = 207 → HE5 FC SF U nm X (r.1 10) (r.2.1 70) ω (j.up 1264)) ∧ (r.v = 304 → HE5 FC SF U nm X (r.1 10) (r.2.1 66) ω (j.en (jen G ω r j.h j.l))) ∧ (r.v = 218 → SWE FC SF U nm X G ω r j ∧ SWF SF U G r)
def JHS (FC : Nat → Prop) (SF : CS) (U : RS) (nm : Nat → Nat → Prop) (X : Als) (G : GHT) (ω h0 : Nat) (c0 : List Ent) : List RVW → Prop
  | [] => True
  | r :: V => JHH FC SF U nm X G ω r (JCX G ω h0 c0 V) ∧ JHS FC SF U nm X G ω h0 c0 V
/-- sites that wait for their aim -/
def rsite (r : RVW) (k : Nat) : Prop := ((r.v = 203 ∨ r.v = 304 ∨ r.v = 218) ∧ (k : Int) = (r.2.1 66).toInt) ∨ (r.v = 204 ∧ (k : Int) = (r.2.1 68).toInt) ∨ ((r.v = 205 ∨ r.v = 207) ∧ (k : Int) = (r.2.1 67).toInt) ∨ ((r.v = 999 ∨ r.v = 995) ∧ (k : Int) = (r.2.1 66).toInt)
def PEN (V : List RVW) (col : Nat → Option (Nat × Bool)) (k : Nat) : Prop := ¬ col k = none ∨ ∃ r ∈ V, rsite r k
def isTyv (r : RVW) : Prop := isTy r.v
/-- a try that is open, a case that waits, a catch that waits -/
def PTY (V : List RVW) (k : Nat) : Prop := ∃ r ∈ V, isTyv r ∧ (k : Int) = (r.2.1 66).toInt
def PCZ (V : List RVW) (k : Nat) : Prop := ∃ r ∈ V, r.v = 218 ∧ (k : Int) = (r.2.1 67).toInt
def PCA (V : List RVW) (k : Nat) : Prop := ∃ r ∈ V, isTyv r ∧ (k : Int) = (r.2.1 72).toInt
/-- a switch's head: its third word waits too -/
def PCH (V : List RVW) (k : Nat) : Prop := ∃ r ∈ V, (r.v = 218 ∨ r.v = 995) ∧ (k : Int) = (r.2.1 66).toInt
theorem PCH.pen {V : List RVW} {col : Nat → Option (Nat × Bool)} {k : Nat} (h : PCH V k) : PEN V col k := by
  obtain ⟨r, hr, z | z, e⟩ := h
  · exact Or.inr ⟨r, hr, Or.inl ⟨Or.inr (Or.inr z), e⟩⟩
  · exact Or.inr ⟨r, hr, Or.inr (Or.inr (Or.inr ⟨Or.inr z, e⟩))⟩
theorem PCH.nt {r : RVW} {V : List RVW} {k : Nat} (h : ¬ (r.v = 218 ∨ r.v = 995)) (p : PCH (r :: V) k) : PCH V k := by
  obtain ⟨q, hq, p⟩ := p
  rcases List.mem_cons.mp hq with e | hq
  · rw [e] at p
    exact absurd p.1 h
  · exact ⟨q, hq, p⟩
theorem PCH.ap {W V : List RVW} {k : Nat} (h : PCH V k) : PCH (W ++ V) k := by
  obtain ⟨r, hr, p⟩ := h
  exact ⟨r, List.mem_append_right _ hr, p⟩
/-- the reference at the end has what was laid, but for what waits -/
def FGP (V : List RVW) (col : Nat → Option (Nat × Bool)) (b s U : RS) : Prop := (0 ≤ (b.i 20).toInt ∧ (s.i 20).toInt ≤ (U.i 20).toInt ∧ (U.i 20).toInt ≤ 3000) ∧ (∀ j : Nat, (b.i 20).toInt ≤ (j : Int) → (j : Int) < (s.i 20).toInt → U.a 21 j = s.a 21 j ∧ (¬ PEN V col j → U.a 22 j = s.a 22 j) ∧ (¬ PCH V j → U.a 23 j = s.a 23 j)) ∧ (∀ j : Nat, (b.i 24).toInt ≤ (j : Int) → (j : Int) < (s.i 24).toInt → U.a 25 j = s.a 25 j ∧ U.a 26 j = s.a 26 j ∧ (¬ PCZ V j → U.a 27 j = s.a 27 j) ∧ U.a 28 j = s.a 28 j) ∧ (∀ j : Nat, (b.i 29).toInt ≤ (j : Int) → (j : Int) < (s.i 29).toInt → ¬ PTY V j → U.a 30 j = s.a 30 j ∧ U.a 31 j = s.a 31 j ∧ U.a 32 j = s.a 32 j) ∧ ∀ j : Nat, (b.i 33).toInt ≤ (j : Int) → (j : Int) < (s.i 33).toInt → U.a 34 j = s.a 34 j ∧ U.a 35 j = s.a 35 j ∧ U.a 36 j = s.a 36 j ∧ (¬ PCA V j → U.a 37 j = s.a 37 j)
/-- all that waits was laid before -/
def PIN (V : List RVW) (col : Nat → Option (Nat × Bool)) (s : RS) : Prop := (∀ k : Nat, PEN V col k → (k : Int) < (s.i 20).toInt) ∧ (∀ k : Nat, PCZ V k → (k : Int) < (s.i 24).toInt) ∧ (∀ k : Nat, PTY V k → (k : Int) < (s.i 29).toInt) ∧ (∀ k : Nat, PCA V k → (k : Int) < (s.i 33).toInt)
/-- as CD1, CD2: names and depth aside -/
def KD1 (d e : Int) (S R : CS) : Prop := ((S.i 20).toInt ≤ (R.i 20).toInt ∧ (R.i 20).toInt + (S.i 44).toInt ≤ (S.i 20).toInt + (R.i 44).toInt + d ∧ (R.i 21).toInt + (S.i 44).toInt ≤ (S.i 21).toInt + (R.i 44).toInt + e) ∧ (∀ j : Nat, (j : Int) < (S.i 20).toInt → R.a 15 j = S.a 15 j ∧ R.a 16 j = S.a 16 j) ∧ (S.i 21).toInt ≤ (R.i 21).toInt ∧ ((S.i 23).toInt ≤ (R.i 23).toInt ∧ 2 * (R.i 23).toInt + (S.i 44).toInt ≤ 2 * (S.i 23).toInt + (R.i 44).toInt + e) ∧ (S.i 22).toInt ≤ (R.i 22).toInt ∧ ∀ k : Nat, (k : Int) < (S.i 22).toInt → R.a 19 k = S.a 19 k
def KD2 (c : Int) (s u : RS) : Prop := ((s.i 20).toInt ≤ (u.i 20).toInt ∧ (s.i 24).toInt ≤ (u.i 24).toInt ∧ (s.i 29).toInt ≤ (u.i 29).toInt ∧ (s.i 33).toInt ≤ (u.i 33).toInt ∧ SLC s u) ∧ (∀ j : Nat, (j : Int) < c → u.a 21 j = s.a 21 j ∧ u.a 22 j = s.a 22 j ∧ u.a 23 j = s.a 23 j) ∧ (∀ j : Nat, (j : Int) < (s.i 24).toInt → u.a 25 j = s.a 25 j ∧ u.a 26 j = s.a 26 j ∧ u.a 27 j = s.a 27 j ∧ u.a 28 j = s.a 28 j) ∧ (∀ j : Nat, (j : Int) < (s.i 29).toInt → u.a 30 j = s.a 30 j ∧ u.a 31 j = s.a 31 j ∧ u.a 32 j = s.a 32 j) ∧ ∀ j : Nat, (j : Int) < (s.i 33).toInt → u.a 34 j = s.a 34 j ∧ u.a 35 j = s.a 35 j ∧ u.a 36 j = s.a 36 j ∧ u.a 37 j = s.a 37 j
theorem CD1.k {d e : Int} {S R : CS} (h : CD1 d e S R) : KD1 d e S R := ⟨h.1, h.2.1, h.2.2.1, h.2.2.2.2.2.1, h.2.2.2.2.2.2.2⟩
theorem CD2.k {c : Int} {s u : RS} (h : CD2 c s u) : KD2 c s u := ⟨⟨h.1.1, h.1.2.1, h.1.2.2.1, h.1.2.2.2.1, h.1.2.2.2.2.1⟩, h.2⟩
theorem KD1.tr {a b a' b' : Int} {S R T : CS} (h : KD1 a a' S R) (g : KD1 b b' R T) : KD1 (a + b) (a' + b') S T := by
  obtain ⟨⟨h1, h2, h2'⟩, h3, h4, ⟨h7, h8⟩, h10, h11⟩ := h
  obtain ⟨⟨g1, g2, g2'⟩, g3, g4, ⟨g7, g8⟩, g10, g11⟩ := g
  refine ⟨⟨by omega, by omega, by omega⟩, fun j hj => ?_, by omega, ⟨by omega, by omega⟩, by omega, fun k hk => (g11 k (by omega)).trans (h11 k hk)⟩
  have x := h3 j hj
  have y := g3 j (by omega)
  exact ⟨y.1.trans x.1, y.2.trans x.2⟩
theorem KD1.wk {a b a' b' : Int} {S R : CS} (h : KD1 a a' S R) (l : a ≤ b) (l' : a' ≤ b') : KD1 b b' S R := ⟨⟨h.1.1, by have := h.1.2; omega, by have := h.1.2; omega⟩, h.2.1, h.2.2.1, ⟨h.2.2.2.1.1, by have := h.2.2.2.1.2; omega⟩, h.2.2.2.2⟩
theorem KD2.tr {c : Int} {s u v : RS} (h : KD2 c s u) (g : KD2 c u v) : KD2 c s v := by
  obtain ⟨⟨h1, h2, h3, h4, h9⟩, h5, h6, h7, h8⟩ := h
  obtain ⟨⟨g1, g2, g3, g4, g9⟩, g5, g6, g7, g8⟩ := g
  refine ⟨⟨by omega, by omega, by omega, by omega, h9.tr g9⟩, fun j hj => ?_, fun j hj => ?_, fun j hj => ?_, fun j hj => ?_⟩
  · have x := h5 j hj
    have y := g5 j hj
    exact ⟨y.1.trans x.1, y.2.1.trans x.2.1, y.2.2.trans x.2.2⟩
  · have x := h6 j hj
    have y := g6 j (by omega)
    exact ⟨y.1.trans x.1, y.2.1.trans x.2.1, y.2.2.1.trans x.2.2.1, y.2.2.2.trans x.2.2.2⟩
  · have x := h7 j hj
    have y := g7 j (by omega)
    exact ⟨y.1.trans x.1, y.2.1.trans x.2.1, y.2.2.trans x.2.2⟩
  · have x := h8 j hj
    have y := g8 j (by omega)
    exact ⟨y.1.trans x.1, y.2.1.trans x.2.1, y.2.2.1.trans x.2.2.1, y.2.2.2.trans x.2.2.2⟩
theorem KD2.wk {c c' : Int} {s u : RS} (h : KD2 c s u) (l : c' ≤ c) : KD2 c' s u := ⟨h.1, fun j hj => h.2.1 j (by omega), h.2.2⟩
theorem KD1.rf (S : CS) : KD1 0 0 S S := (CD1.rf S).k
theorem KD2.rf (c : Int) (s : RS) : KD2 c s s := (CD2.rf c s).k
theorem MNO.ofk {d e c : Int} {S R : CS} {s u : RS} (x : KD1 d e S R) (y : KD2 c s u) : MNO S s R u := ⟨x.2.2.2.1.1, y.1.2.2.2.2, y.1.2.2.1⟩
theorem PIN.up {V : List RVW} {col : Nat → Option (Nat × Bool)} {s u : RS} {c : Int} (h : PIN V col s) (y : KD2 c s u) : PIN V col u := by
  obtain ⟨h1, h2, h3, h4⟩ := h
  obtain ⟨⟨y1, y2, y3, y4, -⟩, -⟩ := y
  exact ⟨fun k q => by have := h1 k q; omega, fun k q => by have := h2 k q; omega, fun k q => by have := h3 k q; omega, fun k q => by have := h4 k q; omega⟩
/-- the part before s -/
theorem FGP.fst {V : List RVW} {col : Nat → Option (Nat × Bool)} {b s u U : RS} {c : Int} (h : FGP V col b u U) (y : KD2 c s u) (lc : (s.i 20).toInt ≤ c) : FGP V col b s U := by
  obtain ⟨⟨h1, h2, h3⟩, h4, h5, h6, h7⟩ := h
  obtain ⟨⟨y1, y2, y3, y4, -⟩, z1, z2, z3, z4⟩ := y
  refine ⟨⟨h1, by omega, h3⟩, fun j j1 j2 => ?_, fun j j1 j2 => ?_, fun j j1 j2 np => ?_, fun j j1 j2 => ?_⟩
  · have a := h4 j j1 (by omega)
    have b := z1 j (by omega)
    exact ⟨a.1.trans b.1, fun q => (a.2.1 q).trans b.2.1, fun q => (a.2.2 q).trans b.2.2⟩
  · have a := h5 j j1 (by omega)
    have b := z2 j j2
    exact ⟨a.1.trans b.1, a.2.1.trans b.2.1, fun q => (a.2.2.1 q).trans b.2.2.1, a.2.2.2.trans b.2.2.2⟩
  · have a := h6 j j1 (by omega) np
    have b := z3 j j2
    exact ⟨a.1.trans b.1, a.2.1.trans b.2.1, a.2.2.trans b.2.2⟩
  · have a := h7 j j1 (by omega)
    have b := z4 j j2
    exact ⟨a.1.trans b.1, a.2.1.trans b.2.1, a.2.2.1.trans b.2.2.1, fun q => (a.2.2.2 q).trans b.2.2.2⟩
/-- the part behind s: nothing in it waits -/
theorem FGP.snd {V : List RVW} {col : Nat → Option (Nat × Bool)} {b s u U : RS} {c : Int} (h : FGP V col b u U) (x : KD2 c b s) (p : PIN V col s) : FGR s u U := by
  obtain ⟨⟨h1, h2, h3⟩, h4, h5, h6, h7⟩ := h
  obtain ⟨⟨x1, x2, x3, x4, -⟩, -⟩ := x
  obtain ⟨p1, p2, p3, p4⟩ := p
  refine ⟨⟨by omega, h2, h3⟩, fun j j1 j2 => ?_, fun j j1 j2 => ?_, fun j j1 j2 => ?_, fun j j1 j2 => ?_⟩
  · have a := h4 j (by omega) j2
    exact ⟨a.1, a.2.1 (fun q => by have := p1 j q; omega), a.2.2 (fun q => by have := p1 j q.pen; omega)⟩
  · have a := h5 j (by omega) j2
    exact ⟨a.1, a.2.1, a.2.2.1 (fun q => by have := p2 j q; omega), a.2.2.2⟩
  · exact h6 j (by omega) j2 (fun q => by have := p3 j q; omega)
  · have a := h7 j (by omega) j2
    exact ⟨a.1, a.2.1, a.2.2.1, a.2.2.2 (fun q => by have := p4 j q; omega)⟩
/-- the catches that wait were hung here -/
def LB7 (b : RS) (V : List RVW) : Prop := ∀ k : Nat, PCA V k → (b.i 33).toInt ≤ (k : Int)
/-- SAT, but for the tries that are open -/
def SAX (V : List RVW) (Ψ : GPS) (S : CS) (s : RS) (R : CS) (u : RS) : Prop := SLO s → (SLO u ∧ LB7 s V) ∧ ∃ (F : Nat → Prop) (M : Nat → Nat → Prop), GHM M S s R u ∧ ∀ (FC : Nat → Prop) (nm : Nat → Nat → Prop), ((∀ y : Nat, (s.i 29).toInt ≤ (y : Int) → (y : Int) < (u.i 29).toInt → ¬ PTY V y → (FC y ↔ F y)) ∧ ∀ k l : Nat, ((S.i 23).toInt ≤ (k : Int) ∧ (k : Int) < (R.i 23).toInt) ∨ ((s.i 42).toInt ≤ (l : Int) ∧ (l : Int) < (u.i 42).toInt) → (nm k l ↔ M k l)) → Ψ FC nm
theorem SAX.an {V : List RVW} {A B : GPS} {S P R : CS} {s p u : RS} (h : SAX V A S s P p) (g : SAT B P p R u) (a : MNO S s P p) (b : MNO P p R u) (hp : ∀ k : Nat, PTY V k → (k : Int) < (p.i 29).toInt) : SAX V (GPS.an A B) S s R u := by
  intro sl
  obtain ⟨a1, a2, a3⟩ := a
  obtain ⟨b1, b2, b3⟩ := b
  obtain ⟨a2, -⟩ := a2 sl
  obtain ⟨⟨slp, lb⟩, F, M, ⟨m1, m2⟩, h⟩ := h sl
  obtain ⟨slu, G, L, ⟨l1, l2⟩, g⟩ := g slp
  obtain ⟨b2, -⟩ := b2 slp
  refine ⟨⟨slu, lb⟩, fun y => ((y : Int) < (p.i 29).toInt ∧ F y) ∨ (¬ (y : Int) < (p.i 29).toInt ∧ G y), fun k l => M k l ∨ L k l, ⟨fun k l z => ?_, fun c l c' l' z z' => ?_⟩, fun FC nm w => ⟨h FC nm ⟨fun y y1 y2 y3 => ?_, fun k l z => ?_⟩, g FC nm ⟨fun y y1 y2 => ?_, fun k l z => ?_⟩⟩⟩
  · rcases z with z | z
    · have := m1 k l z
      omega
    · have := l1 k l z
      omega
  · rcases z with z | z <;> rcases z' with z' | z'
    · exact m2 c l c' l' z z'
    · have x := m1 c l z
      have y := l1 c' l' z'
      exact ⟨fun e => by omega, fun e => by omega⟩
    · have x := l1 c l z
      have y := m1 c' l' z'
      exact ⟨fun e => by omega, fun e => by omega⟩
    · exact l2 c l c' l' z z'
  · rw [w.1 y y1 (by omega) y3]
    exact ⟨fun e => e.elim (fun e => e.2) (fun e => absurd y2 e.1), fun e => Or.inl ⟨y2, e⟩⟩
  · rw [w.2 k l (by omega)]
    exact ⟨fun e => e.elim id (fun e => by have := l1 k l e; omega), Or.inl⟩
  · rw [w.1 y (by omega) y2 (fun q => by have := hp y q; omega)]
    exact ⟨fun e => e.elim (fun e => by omega) (fun e => e.2), fun e => Or.inr ⟨by omega, e⟩⟩
  · rw [w.2 k l (by omega)]
    exact ⟨fun e => e.elim (fun e => by have := m1 k l e; omega) id, Or.inr⟩
/-- what stands at a place in the rows: names, heights -/
def JNM (nm : Nat → Nat → Prop) (j : JCT) (S : CS) (s : RS) (D : Prop) : Prop := NMG nm j.c S s ∧ HC0 nm j.h j.c ∧ ((2 * j.h + msr j.c : Nat) : Int) ≤ (s.i 11).toInt ∧ D
/-- with the flags 0 and 1 -/
def S01 (A B : Als) : Prop := ∀ (p q h w g : Nat) (c : List Ent), g ≤ 1 → A p q h w g c → B p q h w g c
/-- what the base knows -/
def JBA : Type := (Nat → Prop) → CS → (Nat → Nat → Prop) → Als → Nat → Nat → List Ent → Prop
/-- room for a step -/
def CRM (S : CS) : Prop := CRB S ∧ (S.i 20).toInt ≤ (S.i 44).toInt + 7
/-- the base: room for a step and a target -/
def CRQB (S : CS) : Prop := CRM S ∧ (S.i 21).toInt ≤ (S.i 44).toInt + 7 ∧ 2 * (S.i 23).toInt ≤ (S.i 44).toInt + 7
theorem PTY.nt {r : RVW} {V : List RVW} {k : Nat} (h : ¬ isTyv r) (p : PTY (r :: V) k) : PTY V k := by
  obtain ⟨q, hq, p⟩ := p
  rcases List.mem_cons.mp hq with e | hq
  · rw [e] at p
    exact absurd p.1 h
  · exact ⟨q, hq, p⟩
theorem PCA.nt {r : RVW} {V : List RVW} {k : Nat} (h : ¬ isTyv r) (p : PCA (r :: V) k) : PCA V k := by
  obtain ⟨q, hq, p⟩ := p
  rcases List.mem_cons.mp hq with e | hq
  · rw [e] at p
    exact absurd p.1 h
  · exact ⟨q, hq, p⟩
theorem PCZ.nt {r : RVW} {V : List RVW} {k : Nat} (h : ¬ r.v = 218) (p : PCZ (r :: V) k) : PCZ V k := by
  obtain ⟨q, hq, p⟩ := p
  rcases List.mem_cons.mp hq with e | hq
  · rw [e] at p
    exact absurd p.1 h
  · exact ⟨q, hq, p⟩
theorem SAX.nt {r : RVW} {V : List RVW} {Ψ : GPS} {S R : CS} {s u : RS} (h : ¬ isTyv r) (g : SAX V Ψ S s R u) : SAX (r :: V) Ψ S s R u := fun sl => by
  obtain ⟨g1, F, M, g2, g3⟩ := g sl
  exact ⟨⟨g1.1, fun k p => g1.2 k (p.nt h)⟩, F, M, g2, fun FC nm w => g3 FC nm ⟨fun y y1 y2 y3 => w.1 y y1 y2 (fun p => y3 (p.nt h)), w.2⟩⟩
theorem SAX.mo {V V' : List RVW} {Ψ : GPS} {S R : CS} {s u : RS} (h : ∀ k : Nat, PTY V' k → PTY V k) (pa : ∀ k : Nat, PCA V' k → PCA V k) (g : SAX V Ψ S s R u) : SAX V' Ψ S s R u := fun sl => by
  obtain ⟨g1, F, M, g2, g3⟩ := g sl
  exact ⟨⟨g1.1, fun k p => g1.2 k (pa k p)⟩, F, M, g2, fun FC nm w => g3 FC nm ⟨fun y y1 y2 y3 => w.1 y y1 y2 (fun p => y3 (h y p)), w.2⟩⟩
theorem PEN.nt {r : RVW} {V : List RVW} {col : Nat → Option (Nat × Bool)} {k : Nat} (h : ¬ rsite r k) (p : PEN (r :: V) col k) : PEN V col k := by
  rcases p with p | ⟨q, hq, p⟩
  · exact Or.inl p
  · rcases List.mem_cons.mp hq with e | hq
    · rw [e] at p
      exact absurd p h
    · exact Or.inr ⟨q, hq, p⟩
/-- the part before s, a row less -/
theorem FGP.fs2 {r : RVW} {V : List RVW} {col : Nat → Option (Nat × Bool)} {b s u U : RS} {c : Int} (h : FGP (r :: V) col b u U) (y : KD2 c s u) (lc : (s.i 20).toInt ≤ c) (ht : ¬ isTyv r) (h2 : ¬ r.v = 218) (h9 : ¬ (r.v = 218 ∨ r.v = 995)) (hs : ∀ k : Nat, rsite r k → (s.i 20).toInt ≤ (k : Int)) : FGP V col b s U := by
  obtain ⟨h1, h4, h5, h6, h7⟩ := h.fst y lc
  exact ⟨h1, fun j j1 j2 => ⟨(h4 j j1 j2).1, fun q => (h4 j j1 j2).2.1 (fun p => q (p.nt (fun z => by have := hs j z; omega))), fun q => (h4 j j1 j2).2.2 (fun p => q (p.nt h9))⟩, fun j j1 j2 => ⟨(h5 j j1 j2).1, (h5 j j1 j2).2.1, fun q => (h5 j j1 j2).2.2.1 (fun p => q (p.nt h2)), (h5 j j1 j2).2.2.2⟩, fun j j1 j2 q => h6 j j1 j2 (fun p => q (p.nt ht)), fun j j1 j2 => ⟨(h7 j j1 j2).1, (h7 j j1 j2).2.1, (h7 j j1 j2).2.2.1, fun q => (h7 j j1 j2).2.2.2 (fun p => q (p.nt ht))⟩⟩
/-- the rows of a list -/
def vws (S : CS) (s : RS) (L : List CEL) : List RVW := L.map (vw S s)
theorem vw_at {S : CS} {s : RS} {c : CEL} {k : Nat} (h : 66 ≤ k ∧ k ≤ 73) : (vw S s c).2.1 k = s.a k (ceT c) := if_pos h
theorem COR.o3 {d : Int32} {B : CS} {b : RS} {t0 : Nat} {L : List CEL} {x : Int} {S : CS} {s : RS} (hC : COR d B b t0 L x S s) : ∀ y ∈ L, (S.o y.2.1 3).toInt ≤ (s.i 38).toInt := fun y hy => by
  rw [← hC.1.2.1.1]
  exact (hC.2.2.2.2.2.2.2.1.2.1 y hy).2
theorem vw_40 {s u : RS} {n : Int} (tb : ∀ j : Nat, (j : Int) < n → u.a 40 j = s.a 40 j) {v : Int32} (hv : v.toInt ≤ n) (k : Nat) : (if 1000 ≤ k ∧ (k : Int) - 1000 < v.toInt then u.a 40 (k - 1000) else 0) = (if 1000 ≤ k ∧ (k : Int) - 1000 < v.toInt then s.a 40 (k - 1000) else 0) := by
  by_cases q : 1000 ≤ k ∧ (k : Int) - 1000 < v.toInt
  · rw [if_pos q, if_pos q]
    exact tb _ (by omega)
  · rw [if_neg q, if_neg q]
theorem vws.eq {S R : CS} {s u : RS} {T : Nat} (tb : ∀ j : Nat, (j : Int) < (s.i 38).toInt → u.a 40 j = s.a 40 j) : ∀ (L : List CEL), (∀ y ∈ L, (S.o y.2.1 3).toInt ≤ (s.i 38).toInt) → (∀ c ∈ L, R.o c.2.1 = S.o c.2.1) → FRB T s u → (∀ c ∈ L, ceT c < T) → vws R u L = vws S s L
  | [], _, _, _, _ => rfl
  | c :: L, o3, h, f, t => by
    have ih := vws.eq tb L (fun d hd => o3 d (List.mem_cons_of_mem _ hd)) (fun d hd => h d (List.mem_cons_of_mem _ hd)) f (fun d hd => t d (List.mem_cons_of_mem _ hd))
    have e1 : vw R u c = vw S s c := by
      unfold vw
      rw [h c List.mem_cons_self]
      obtain ⟨f0, f1, f2, f3, f4, f5, f6, f7, f8, f9, -⟩ := f (ceT c) (t c List.mem_cons_self)
      have e2 : (fun k : Nat => if 66 ≤ k ∧ k ≤ 73 then u.a k (ceT c) else if 1000 ≤ k ∧ (k : Int) - 1000 < (S.o c.2.1 3).toInt then u.a 40 (k - 1000) else 0) = (fun k : Nat => if 66 ≤ k ∧ k ≤ 73 then s.a k (ceT c) else if 1000 ≤ k ∧ (k : Int) - 1000 < (S.o c.2.1 3).toInt then s.a 40 (k - 1000) else 0) := by
        funext k
        by_cases q : 66 ≤ k ∧ k ≤ 73
        · rw [if_pos q, if_pos q]
          have : k = 66 ∨ k = 67 ∨ k = 68 ∨ k = 69 ∨ k = 70 ∨ k = 71 ∨ k = 72 ∨ k = 73 := by omega
          rcases this with z | z | z | z | z | z | z | z <;> rw [z] <;> assumption
        · rw [if_neg q, if_neg q]
          exact vw_40 tb (o3 c List.mem_cons_self) k
      rw [e2]
    show vw R u c :: vws R u L = vw S s c :: vws S s L
    rw [e1, ih]
/-- names and places, from s to u -/
def NMV (s u : RS) : Prop := u.i 38 = s.i 38 ∧ (∀ j : Nat, (j : Int) < (s.i 38).toInt → u.a 40 j = s.a 40 j)
theorem NMV.tr {s q u : RS} (h : NMV s q) (g : NMV q u) : NMV s u := ⟨g.1.trans h.1, fun j hj => (g.2 j (by rw [h.1]; exact hj)).trans (h.2 j hj)⟩
theorem NMV.tbk {s u : RS} (h : TBK s u) : NMV s u := ⟨h.1.1.2.2.2.1, fun j hj => (h.1.2.1 j hj).2.1⟩
theorem NMV.dif {s q u : RS} (h : NMV s q) (g : NMV s u) : NMV q u := ⟨g.1.trans h.1.symm, fun j hj => (g.2 j (by rw [h.1] at hj; exact hj)).trans (h.2 j (by rw [h.1] at hj; exact hj)).symm⟩
theorem NMV.rf (s : RS) : NMV s s := ⟨rfl, fun _ _ => rfl⟩
/-- what a state's counts are, with so many instructions and targets that no byte has paid -/
def RMS (a e : Int) (S : CS) : Prop := (0 ≤ (S.i 20).toInt ∧ (S.i 20).toInt ≤ (S.i 44).toInt + 7 + a) ∧ 0 ≤ (S.i 21).toInt ∧ (S.i 21).toInt ≤ (S.i 44).toInt + 7 + e ∧ 0 ≤ (S.i 23).toInt ∧ 2 * (S.i 23).toInt ≤ (S.i 44).toInt + 7 + e
theorem CRQB.rms {a e : Int} {S R : CS} (h : CRQB S) (g : KD1 a e S R) : RMS a e R := by
  obtain ⟨⟨⟨⟨h1, h2⟩, h3, h4, h5, h6⟩, h7⟩, h8, h9⟩ := h
  obtain ⟨⟨g1, g2, g3⟩, -, g4, ⟨g5, g6⟩, -⟩ := g
  exact ⟨⟨by omega, by omega⟩, by omega, by omega, by omega, by omega⟩
theorem RMS.crb {a e : Int} {S : CS} (h : RMS a e S) (l : a ≤ 1) (m : e ≤ 1) : CRB S := by
  obtain ⟨⟨h1, h2⟩, h3, h4, h5, h6⟩ := h
  exact ⟨⟨by omega, by omega⟩, by omega, by omega, by omega, by omega⟩
/-- targets that wait -/
def rtgs (r : RVW) : List Int32 := if r.v = 203 then [r.1 10] else if r.v = 204 ∨ r.v = 205 ∨ r.v = 207 ∨ r.v = 304 ∨ r.v = 303 ∨ r.v = 212 ∨ r.v = 216 ∨ r.v = 997 then [r.1 9] else if r.v = 206 ∨ r.v = 218 then [r.1 10, r.1 9] else if r.v = 213 ∨ r.v = 215 then [r.1 10, r.1 11, r.1 9] else if r.v = 305 then [r.1 11, r.1 9] else []
def ptl : List RVW → List Int32
  | [] => []
  | r :: V => rtgs r ++ ptl V
theorem ptl.app : ∀ (W V : List RVW), ptl (W ++ V) = ptl W ++ ptl V
  | [], _ => rfl
  | r :: W, V => by
    show rtgs r ++ ptl (W ++ V) = (rtgs r ++ ptl W) ++ ptl V
    rw [ptl.app W V, List.append_assoc]
/-- the targets that wait: each its own, not aimed -/
def TGI (B : CS) (V : List RVW) (S : CS) : Prop := (ptl V).Nodup ∧ ∀ x ∈ ptl V, (B.i 21).toInt ≤ x.toInt ∧ x.toInt < (S.i 21).toInt ∧ S.a 17 x.toNatClampNeg = -1
theorem TGI.mv {B S R : CS} {V : List RVW} (h : TGI B V S) (h0 : 0 ≤ (B.i 21).toInt) (l : (S.i 21).toInt ≤ (R.i 21).toInt) (t : CT7 0 (S.i 21).toInt S R) : TGI B V R := ⟨h.1, fun x hx => by
  obtain ⟨h1, h2, h3⟩ := h.2 x hx
  have ck := clampI (show 0 ≤ x.toInt by omega)
  exact ⟨h1, by omega, (t _ (by omega) (by omega)).trans h3⟩⟩
/-- a chain of sites -/
def lks (s : RS) : Int32 → List Nat → Prop
  | v, [] => v.toInt < 0
  | v, j :: l => v.toInt = (j : Int) ∧ lks s (s.a 22 j) l
theorem lks.mv {s u : RS} : ∀ (l : List Nat) (v : Int32), lks s v l → (∀ j ∈ l, u.a 22 j = s.a 22 j) → lks u v l
  | [], _, h, _ => h
  | j :: l, v, h, g => ⟨h.1, by
    rw [g j List.mem_cons_self]
    exact lks.mv l _ h.2 (fun i hi => g i (List.mem_cons_of_mem _ hi))⟩
def jfl (s : RS) (g : Nat) (k : Bool) : Int32 := if k = true then s.a 50 g else s.a 51 g
/-- a jump that waits at a try -/
def JWT (V : List RVW) (ys : List Nat) (s : RS) (r : RVW) (g : Nat) (k : Bool) : Prop := ∃ i : Nat, (i : Int) < (s.i 59).toInt ∧ (s.a 60 i).toInt = (g : Int) ∧ (¬ s.a 61 i = 0 ↔ k = true) ∧ ∃ r' ∈ V, isTyv r' ∧ r.2.2.1 < r'.2.2.1 ∧ s.a 62 i = r'.2.1 66 ∧ (r'.2.1 66).toNatClampNeg ∈ ys ∧ ∀ r2 ∈ V, isWl r2.v → r.2.2.1 < r2.2.2.1 → r2.2.2.1 < r'.2.2.1 → (r2.2.1 66).toNatClampNeg ∈ ys
/-- one that never arrives -/
def JLO (Ψ : GPS) (V : List RVW) (ys : List Nat) (b s : RS) : Prop := ∃ y ∈ ys, ((b.i 29).toInt ≤ (y : Int) ∧ (y : Int) < (s.i 29).toInt) ∧ ¬ PTY V y ∧ 0 ≤ (s.a 31 y).toInt ∧ ∀ (FC : Nat → Prop) (nm : Nat → Nat → Prop), Ψ FC nm → ¬ FC y
/-- what waits for its aim is on no chain -/
def SDI : List RVW → Prop
  | [] => True
  | r :: V => (∀ k : Nat, rsite r k → ∀ q ∈ V, ¬ rsite q k) ∧ SDI V
def NCL (V : List RVW) (col : Nat → Option (Nat × Bool)) : Prop := (∀ r ∈ V, ∀ k : Nat, rsite r k → col k = none) ∧ SDI V
/-- the sites of jumps: their chains, and whether they arrive -/
def JSI (Ψ : GPS) (V : List RVW) (col : Nat → Option (Nat × Bool)) (YJ : Nat → List Nat) (b s : RS) : Prop := (∀ r ∈ V, isGo r.v → ((r.2.2.2 : Nat) : Int) < (s.i 43).toInt ∧ ∃ l1 l2 : List Nat, lks s (s.a 48 r.2.2.2) l1 ∧ lks s (s.a 49 r.2.2.2) l2 ∧ ∀ j : Nat, (col j = some (r.2.2.2, true) ↔ j ∈ l1) ∧ (col j = some (r.2.2.2, false) ↔ j ∈ l2)) ∧ (∀ (j g : Nat) (k : Bool), col j = some (g, k) → ((b.i 20).toInt ≤ (j : Int) ∧ (j : Int) < (s.i 20).toInt) ∧ ∃ r ∈ V, (isGo r.v ∧ (k = false → isLo r.v)) ∧ r.2.2.2 = g ∧ (jfl s g k = 1 ∨ JWT V (YJ j) s r g k ∨ JLO Ψ V (YJ j) b s)) ∧ NCL V col
/-- what jumps look at stays -/
def GKP (s u : RS) : Prop := (s.i 43).toInt ≤ (u.i 43).toInt ∧ (∀ j : Nat, (j : Int) < (s.i 43).toInt → u.a 50 j = s.a 50 j ∧ u.a 51 j = s.a 51 j ∧ u.a 48 j = s.a 48 j ∧ u.a 49 j = s.a 49 j ∧ u.a 47 j = s.a 47 j) ∧ (s.i 59).toInt ≤ (u.i 59).toInt ∧ ∀ j : Nat, (j : Int) < (s.i 59).toInt → u.a 60 j = s.a 60 j ∧ u.a 61 j = s.a 61 j ∧ u.a 62 j = s.a 62 j
theorem GKP.tbr {s u : RS} (h : TBR s u) (l : (s.i 43).toInt ≤ (u.i 43).toInt) : GKP s u := ⟨l, fun j hj => by
  have z := h.2.1 j hj
  exact ⟨z.2.2.2.2.1, z.2.2.2.2.2.1, z.2.2.2.2.2.2.1, z.2.2.2.2.2.2.2, z.2.2.2.1⟩, h.2.2.2.1.1, h.2.2.2.2.1⟩
theorem GKP.rf (s : RS) : GKP s s := ⟨Int.le_refl _, fun _ _ => ⟨rfl, rfl, rfl, rfl, rfl⟩, Int.le_refl _, fun _ _ => ⟨rfl, rfl, rfl⟩⟩
theorem GKP.tr {s u v : RS} (h : GKP s u) (g : GKP u v) : GKP s v := ⟨Int.le_trans h.1 g.1, fun j hj => by
  have x := h.2.1 j hj
  have y := g.2.1 j (by have := h.1; omega)
  exact ⟨y.1.trans x.1, y.2.1.trans x.2.1, y.2.2.1.trans x.2.2.1, y.2.2.2.1.trans x.2.2.2.1, y.2.2.2.2.trans x.2.2.2.2⟩, Int.le_trans h.2.2.1 g.2.2.1, fun j hj => by
  have x := h.2.2.2 j hj
  have y := g.2.2.2 j (by have := h.2.2.1; omega)
  exact ⟨y.1.trans x.1, y.2.1.trans x.2.1, y.2.2.trans x.2.2⟩⟩
/-- what jumps to the rows look at stays -/
def GKV (V : List RVW) (s u : RS) : Prop := (∀ r ∈ V, isGo r.v → ((r.2.2.2 : Nat) : Int) < (u.i 43).toInt ∧ u.a 50 r.2.2.2 = s.a 50 r.2.2.2 ∧ u.a 51 r.2.2.2 = s.a 51 r.2.2.2 ∧ u.a 48 r.2.2.2 = s.a 48 r.2.2.2 ∧ u.a 49 r.2.2.2 = s.a 49 r.2.2.2 ∧ u.a 47 r.2.2.2 = s.a 47 r.2.2.2) ∧ (s.i 59).toInt ≤ (u.i 59).toInt ∧ ∀ j : Nat, (j : Int) < (s.i 59).toInt → u.a 60 j = s.a 60 j ∧ u.a 61 j = s.a 61 j ∧ u.a 62 j = s.a 62 j
theorem GKP.v {V : List RVW} {s u : RS} (g : GKP s u) (h : ∀ r ∈ V, isGo r.v → ((r.2.2.2 : Nat) : Int) < (s.i 43).toInt) : GKV V s u := ⟨fun r hr go => by
  have z := h r hr go
  have y := g.1
  exact ⟨by omega, g.2.1 _ z⟩, g.2.2⟩
theorem JSI.mw {Ψ Ψ' : GPS} {V : List RVW} {col : Nat → Option (Nat × Bool)} {YJ : Nat → List Nat} {b s u : RS} (h : JSI Ψ V col YJ b s) (g : GKV V s u) (y20 : (s.i 20).toInt ≤ (u.i 20).toInt) (y29 : (s.i 29).toInt ≤ (u.i 29).toInt) (a22 : ∀ j : Nat, ¬ col j = none → u.a 22 j = s.a 22 j) (a31 : ∀ y : Nat, (y : Int) < (s.i 29).toInt → ¬ PTY V y → u.a 31 y = s.a 31 y) (ps : ∀ (FC : Nat → Prop) (nm : Nat → Nat → Prop), Ψ' FC nm → Ψ FC nm) : JSI Ψ' V col YJ b u := by
  obtain ⟨h1, h2, hn⟩ := h
  obtain ⟨g2, g3, g4⟩ := g
  have nn : ∀ (j : Nat) (x : Nat × Bool), col j = some x → ¬ col j = none := fun j x e z => by
    rw [z] at e
    cases e
  refine ⟨fun r hr go => ?_, fun j gg k hc => ?_, hn⟩
  · obtain ⟨z0, l1, l2, z1, z2, z3⟩ := h1 r hr go
    obtain ⟨e43, -, -, e48, e49, -⟩ := g2 r hr go
    refine ⟨e43, l1, l2, ?_, ?_, z3⟩
    · rw [e48]
      exact lks.mv l1 _ z1 (fun j hj => a22 j (nn j _ ((z3 j).1.mpr hj)))
    · rw [e49]
      exact lks.mv l2 _ z2 (fun j hj => a22 j (nn j _ ((z3 j).2.mpr hj)))
  · obtain ⟨⟨z1, z2⟩, r, hr, go, eg, z3⟩ := h2 j gg k hc
    refine ⟨⟨z1, by omega⟩, r, hr, go, eg, ?_⟩
    obtain ⟨-, e50, e51, -, -, -⟩ := g2 r hr go.1
    rw [eg] at e50 e51
    rcases z3 with z3 | ⟨i, i1, i2, i3, r', hr', i4, i5, i6, i7⟩ | ⟨w, hw, w1, w2, w3, w4⟩
    · refine Or.inl ?_
      unfold jfl at z3 ⊢
      rw [e50, e51]
      exact z3
    · obtain ⟨e1, e2, e3⟩ := g4 i i1
      exact Or.inr (Or.inl ⟨i, by omega, by rw [e1]; exact i2, by rw [e2]; exact i3, r', hr', i4, i5, by rw [e3]; exact i6, i7⟩)
    · exact Or.inr (Or.inr ⟨w, hw, ⟨w1.1, by omega⟩, w2, by rw [a31 w w1.2 w2]; exact w3, fun FC nm q => w4 FC nm (ps FC nm q)⟩)
theorem JSI.lt {Ψ : GPS} {V : List RVW} {col : Nat → Option (Nat × Bool)} {YJ : Nat → List Nat} {b s : RS} (h : JSI Ψ V col YJ b s) (j : Nat) (hj : ¬ col j = none) : (j : Int) < (s.i 20).toInt := by
  cases e : col j with
  | none => exact absurd e hj
  | some x => exact (h.2.1 j x.1 x.2 e).1.2
theorem JSI.mv {Ψ Ψ' : GPS} {V : List RVW} {col : Nat → Option (Nat × Bool)} {YJ : Nat → List Nat} {b s u : RS} (h : JSI Ψ V col YJ b s) (g : GKP s u) (y : KD2 (s.i 20).toInt s u) (ps : ∀ (FC : Nat → Prop) (nm : Nat → Nat → Prop), Ψ' FC nm → Ψ FC nm) : JSI Ψ' V col YJ b u := h.mw (g.v (fun r hr go => (h.1 r hr go).1)) y.1.1 y.1.2.2.1 (fun j hj => (y.2.1 j (h.lt j hj)).2.1) (fun w hw _ => (y.2.2.2.1 w hw).2.1) ps
/-- instructions that a row still owes -/
def dbr (g : Nat × Nat × List (Int32 × Nat)) (v : Int32) : Int := if v = 205 ∨ v = 207 ∨ v = 304 ∨ v = 213 ∨ v = 215 ∨ v = 305 then 1 else if v = 218 then 2 + 2 * (g.2.2.length : Int) else 0
def DB (G : GHT) : List RVW → Int
  | [] => 0
  | r :: V => DB G V + dbr (G r.2.2.1) r.v
theorem dbr.ge (g : Nat × Nat × List (Int32 × Nat)) (v : Int32) : 0 ≤ dbr g v := by
  unfold dbr
  split
  · decide
  · split
    · omega
    · exact Int.le_refl _
theorem DB.ge (G : GHT) : ∀ V : List RVW, 0 ≤ DB G V
  | [] => Int.le_refl _
  | r :: V => by
    have h1 := DB.ge G V
    have h2 := dbr.ge (G r.2.2.1) r.v
    show 0 ≤ DB G V + dbr (G r.2.2.1) r.v
    omega
/-- a loop's head: its target -/
def rhd (r : RVW) (x : Int32) : Prop := ((r.v = 205 ∨ r.v = 207 ∨ r.v = 304 ∨ r.v = 204) ∧ x = r.1 10) ∨ (r.v = 206 ∧ x = r.1 11) ∨ (r.v = 994 ∧ x = r.1 9)
/-- the heads of loops are aimed -/
def HDS (B : CS) (V : List RVW) (S : CS) : Prop := ∀ r ∈ V, ∀ x : Int32, rhd r x → (B.i 21).toInt ≤ x.toInt ∧ x.toInt < (S.i 21).toInt ∧ 0 ≤ (S.a 17 x.toNatClampNeg).toInt ∧ (S.a 17 x.toNatClampNeg).toInt ≤ (S.i 20).toInt
theorem HDS.mv {B S R : CS} {V V' : List RVW} (h : HDS B V S) (h0 : 0 ≤ (B.i 21).toInt) (l : (S.i 21).toInt ≤ (R.i 21).toInt) (l20 : (S.i 20).toInt ≤ (R.i 20).toInt) (t : CT7 0 (S.i 21).toInt S R) (hv : ∀ r ∈ V', ∀ x : Int32, rhd r x → r ∈ V) : HDS B V' R := fun r hr x hx => by
  obtain ⟨h1, h2, h3, h4⟩ := h r (hv r hr x hx) x hx
  have ck := clampI (show 0 ≤ x.toInt by omega)
  have e := t x.toNatClampNeg (by omega) (by omega)
  exact ⟨h1, by omega, by rw [e]; exact h3, by rw [e]; omega⟩
theorem HDS.cs {B S : CS} {V : List RVW} {r : RVW} (h : HDS B V S) (hr : ∀ x : Int32, ¬ rhd r x) : HDS B (r :: V) S := fun q hq x hx => by
  rcases List.mem_cons.mp hq with e | hq
  · rw [e] at hx
    exact absurd hx (hr x)
  · exact h q hq x hx
/-- the class at the end has what was laid, but for the targets that wait -/
def FGD (V : List RVW) (B S SF : CS) : Prop := (0 ≤ (B.i 20).toInt ∧ (S.i 20).toInt ≤ 1200) ∧ (∀ j : Nat, (B.i 20).toInt ≤ (j : Int) → (j : Int) < (S.i 20).toInt → SF.a 15 j = S.a 15 j ∧ SF.a 16 j = S.a 16 j) ∧ ∀ k : Nat, (B.i 21).toInt ≤ (k : Int) → (k : Int) < (S.i 21).toInt → (0 ≤ (S.a 17 k).toInt ∨ ((k : Int) + 1 < (S.i 21).toInt ∧ ∀ y ∈ ptl V, ¬ y.toInt = (k : Int))) → SF.a 17 k = S.a 17 k
/-- a switch's entries: their targets and places are the row's -/
def SWG (β : Int) (G : GHT) (S : CS) (s : RS) (r : RVW) : Prop := ∃ L : List Nat, chn s (s.a 22 (r.2.1 66).toNatClampNeg) L ∧ (0 ≤ (r.1 13).toInt ∧ (r.1 13).toInt + (nd (s.a 28) L : Int) ≤ (S.i 22).toInt ∧ nd (s.a 28) L ≤ (G r.2.2.1).2.2.length ∧ (0 ≤ (r.1 11).toInt ↔ ∃ j ∈ L, ¬ s.a 28 j = 0)) ∧ ∀ j ∈ L, β ≤ (j : Int) ∧ (s.a 28 j = 0 → ∃ z ∈ (G r.2.2.1).2.2, z.1 = S.a 19 ((r.1 13).toNatClampNeg + ndx (s.a 28) j L) ∧ (s.a 26 j).toInt = (z.2 : Int)) ∧ (¬ s.a 28 j = 0 → ∃ z ∈ (G r.2.2.1).2.2, z.1 = r.1 11 ∧ (s.a 26 j).toInt = (z.2 : Int))
/-- what the rows' ghosts are, by the states -/
def SWS (β : Int) (G : GHT) (V : List RVW) (S : CS) (s : RS) : Prop := ∀ r ∈ V, (r.v = 218 → SWG β G S s r) ∧ (r.v = 216 → (s.a 31 (r.2.1 66).toNatClampNeg).toInt = ((G r.2.2.1).1 : Int)) ∧ (r.v = 215 → ∀ z ∈ (G r.2.2.1).2.2, ((z.2 : Nat) : Int) ≤ (S.i 20).toInt) ∧ (r.v = 218 → (((G r.2.2.1).1 : Nat) : Int) ≤ (S.i 20).toInt) ∧ (isTyv r → ¬ r.v = 216 → (s.a 31 (r.2.1 66).toNatClampNeg).toInt < 0) ∧ (r.v = 215 ∨ r.v = 216 → ∀ z ∈ (G r.2.2.1).2.2, s.a 30 (r.2.1 66).toNatClampNeg = z.1)
theorem SWG.mv {β : Int} {G : GHT} {S R : CS} {s u : RS} {r : RVW} (h : SWG β G S s r) (i22 : (S.i 22).toInt ≤ (R.i 22).toInt) (a19 : ∀ k : Nat, (k : Int) < (S.i 22).toInt → R.a 19 k = S.a 19 k) (i24 : (s.i 24).toInt ≤ (u.i 24).toInt) (e : ∀ j : Nat, (j : Int) < (s.i 24).toInt → u.a 25 j = s.a 25 j ∧ u.a 26 j = s.a 26 j ∧ u.a 27 j = s.a 27 j ∧ u.a 28 j = s.a 28 j) (a22 : u.a 22 (r.2.1 66).toNatClampNeg = s.a 22 (r.2.1 66).toNatClampNeg) : SWG β G R u r := by
  obtain ⟨L, h1, ⟨h2, h3, h4, h6⟩, h5⟩ := h
  have lt := chn.lt L _ h1
  have e28 : ∀ j ∈ L, u.a 28 j = s.a 28 j := fun j hj => (e j (lt j hj)).2.2.2
  have en : nd (u.a 28) L = nd (s.a 28) L := nd.eq L e28
  have ck := clampI h2
  refine ⟨L, by rw [a22]; exact chn.up i24 (fun j hj => (e j hj).2.2.1) L _ h1, ⟨h2, by rw [en]; omega, by rw [en]; exact h4, h6.trans ⟨fun ⟨j, hj, z⟩ => ⟨j, hj, by rw [e28 j hj]; exact z⟩, fun ⟨j, hj, z⟩ => ⟨j, hj, by rw [← e28 j hj]; exact z⟩⟩⟩, fun j hj => ⟨(h5 j hj).1, fun z => ?_, fun z => ?_⟩⟩
  · rw [e28 j hj] at z
    obtain ⟨w, w1, w2, w3⟩ := (h5 j hj).2.1 z
    have li := ndx.lt L hj z
    refine ⟨w, w1, ?_, by rw [(e j (lt j hj)).2.1]; exact w3⟩
    rw [ndx.eq L e28, a19 _ (by omega)]
    exact w2
  · rw [e28 j hj] at z
    obtain ⟨w, w1, w2, w3⟩ := (h5 j hj).2.2 z
    exact ⟨w, w1, w2, by rw [(e j (lt j hj)).2.1]; exact w3⟩
theorem SWS.mv {β : Int} {G : GHT} {V : List RVW} {S R : CS} {s u : RS} (h : SWS β G V S s) (i20 : (S.i 20).toInt ≤ (R.i 20).toInt) (i22 : (S.i 22).toInt ≤ (R.i 22).toInt) (a19 : ∀ k : Nat, (k : Int) < (S.i 22).toInt → R.a 19 k = S.a 19 k) (i24 : (s.i 24).toInt ≤ (u.i 24).toInt) (e : ∀ j : Nat, (j : Int) < (s.i 24).toInt → u.a 25 j = s.a 25 j ∧ u.a 26 j = s.a 26 j ∧ u.a 27 j = s.a 27 j ∧ u.a 28 j = s.a 28 j) (a22 : ∀ r ∈ V, r.v = 218 → u.a 22 (r.2.1 66).toNatClampNeg = s.a 22 (r.2.1 66).toNatClampNeg) (a31 : ∀ r ∈ V, isTyv r → u.a 31 (r.2.1 66).toNatClampNeg = s.a 31 (r.2.1 66).toNatClampNeg) (a30 : ∀ r ∈ V, isTyv r → u.a 30 (r.2.1 66).toNatClampNeg = s.a 30 (r.2.1 66).toNatClampNeg) : SWS β G V R u := fun r hr => ⟨fun z => ((h r hr).1 z).mv i22 a19 i24 e (a22 r hr z), fun z => by rw [a31 r hr (Or.inr (Or.inr (Or.inr z)))]; exact (h r hr).2.1 z, fun z w hw => Int.le_trans ((h r hr).2.2.1 z w hw) i20, fun z => Int.le_trans ((h r hr).2.2.2.1 z) i20, fun t n => by rw [a31 r hr t]; exact (h r hr).2.2.2.2.1 t n, fun z => by rw [a30 r hr (z.elim (fun z => Or.inr (Or.inl z)) (fun z => Or.inr (Or.inr (Or.inr z))))]; exact (h r hr).2.2.2.2.2 z⟩
theorem rsite.h8 {r : RVW} (h : r.v = 218) (h0 : 0 ≤ (r.2.1 66).toInt) : rsite r (r.2.1 66).toNatClampNeg := Or.inl ⟨Or.inr (Or.inr h), clampI h0⟩
theorem clampN {x : Int32} (h : x.toInt < 0) : x.toNatClampNeg = 0 := by
  show x.toInt.toNat = 0
  omega
theorem SWS.kd {β : Int} {G : GHT} {V W : List RVW} {col : Nat → Option (Nat × Bool)} {S R : CS} {s u : RS} {a e c : Int} (h : SWS β G V S s) (x : KD1 a e S R) (y : KD2 c s u) (p : ∀ r ∈ V, (r.v = 218 → (((r.2.1 66).toNatClampNeg : Nat) : Int) < c) ∧ (isTyv r → (((r.2.1 66).toNatClampNeg : Nat) : Int) < (s.i 29).toInt)) : SWS β G V R u := h.mv x.1.1 x.2.2.2.2.1 x.2.2.2.2.2 y.1.2.1 y.2.2.1 (fun r hr z => (y.2.1 _ ((p r hr).1 z)).2.1) (fun r hr z => (y.2.2.2.1 _ ((p r hr).2 z)).2.1) (fun r hr z => (y.2.2.2.1 _ ((p r hr).2 z)).1)
/-- heads of switches, numbers of tries: there -/
def SWP (V : List RVW) (s : RS) : Prop := ∀ r ∈ V, (r.v = 218 → 0 ≤ (r.2.1 66).toInt ∧ (r.2.1 66).toInt < (s.i 20).toInt) ∧ (isTyv r → 0 ≤ (r.2.1 66).toInt ∧ (r.2.1 66).toInt < (s.i 29).toInt) ∧ ¬ r.v = 305
theorem SWP.mv {V : List RVW} {s u : RS} (h : SWP V s) (l : (s.i 20).toInt ≤ (u.i 20).toInt) (m : (s.i 29).toInt ≤ (u.i 29).toInt) : SWP V u := fun r hr => ⟨fun z => ⟨((h r hr).1 z).1, Int.lt_of_lt_of_le ((h r hr).1 z).2 l⟩, fun z => ⟨((h r hr).2.1 z).1, Int.lt_of_lt_of_le ((h r hr).2.1 z).2 m⟩, (h r hr).2.2⟩
theorem SWP.kd {V : List RVW} {s : RS} (h : SWP V s) : ∀ r ∈ V, (r.v = 218 → (((r.2.1 66).toNatClampNeg : Nat) : Int) < (s.i 20).toInt) ∧ (isTyv r → (((r.2.1 66).toNatClampNeg : Nat) : Int) < (s.i 29).toInt) := fun r hr => ⟨fun z => by
  have := (h r hr).1 z
  have ck := clampI this.1
  omega, fun z => by
  have := (h r hr).2.1 z
  have ck := clampI this.1
  omega⟩
/-- both: what the rows' ghosts are -/
def SWT (β : Int) (G : GHT) (V : List RVW) (S : CS) (s : RS) : Prop := SWS β G V S s ∧ SWP V s
theorem SWT.kd {β : Int} {G : GHT} {V : List RVW} {S R : CS} {s u : RS} {a e : Int} (h : SWT β G V S s) (x : KD1 a e S R) (y : KD2 (s.i 20).toInt s u) : SWT β G V R u := ⟨h.1.kd (W := []) (col := fun _ => none) x y h.2.kd, h.2.mv y.1.1 y.1.2.2.1⟩
/-- a row's entry, counted as the reference counts -/
def d32 (v : Int32) : Int32 := if v = 212 ∨ v = 213 ∨ v = 215 ∨ v = 216 ∨ v = 304 then 1 else 0
def sl32 : List RVW → Int32
  | [] => 0
  | r :: V => sl32 V + d32 r.v
/-- the names of the base stay; so many entries are open -/
def N8 (B : CS) (b : RS) (V : List RVW) (S : CS) (s : RS) : Prop := (∀ k : Nat, (k : Int) < (b.i 38).toInt → (k : Int) < (s.i 38).toInt → S.a 48 k = B.a 48 k ∧ S.a 49 k = B.a 49 k) ∧ s.i 52 = b.i 52 + sl32 V
/-- names and entries, from S, s to R, u; t: a name may be told -/
def NK (t : Prop) (S : CS) (s : RS) (R : CS) (u : RS) : Prop := u.i 52 = s.i 52 ∧ (u.i 38 = s.i 38 ∨ t) ∧ ∀ k : Nat, (k : Int) < (s.i 38).toInt → R.a 48 k = S.a 48 k ∧ R.a 49 k = S.a 49 k
theorem N8.nt {t : Prop} {B : CS} {b : RS} {V : List RVW} {S R : CS} {s u : RS} (h : N8 B b V S s) (hb : t → (b.i 38).toInt ≤ (s.i 38).toInt) (g : NK t S s R u) : N8 B b V R u := ⟨fun k k1 k2 => by
  have k3 : (k : Int) < (s.i 38).toInt := by
    rcases g.2.1 with z | z
    · rw [z] at k2
      exact k2
    · have := hb z
      omega
  obtain ⟨x1, x2⟩ := g.2.2 k k3
  rw [x1, x2]
  exact h.1 k k1 k3, by rw [g.1]; exact h.2⟩
theorem N8.nk {B : CS} {b : RS} {V : List RVW} {S R : CS} {s u : RS} (h : N8 B b V S s) (g : NK False S s R u) : N8 B b V R u := h.nt False.elim g
theorem N8.lo {B : CS} {b : RS} {V : List RVW} {S R : CS} {s u : RS} (h : N8 B b V S s) (a48 : R.a 48 = S.a 48) (a49 : R.a 49 = S.a 49) (i52 : u.i 52 = s.i 52) (l : (u.i 38).toInt ≤ (s.i 38).toInt) : N8 B b V R u := ⟨fun k k1 k2 => by rw [a48, a49]; exact h.1 k k1 (by omega), by rw [i52]; exact h.2⟩
/-- a row opens, a row closes -/
theorem N8.ps {B : CS} {b : RS} {V : List RVW} {r : RVW} {S R : CS} {s u : RS} (h : N8 B b V S s) (a48 : R.a 48 = S.a 48) (a49 : R.a 49 = S.a 49) (i52 : u.i 52 = s.i 52 + d32 r.v) (l : (u.i 38).toInt ≤ (s.i 38).toInt) : N8 B b (r :: V) R u := ⟨fun k k1 k2 => by rw [a48, a49]; exact h.1 k k1 (by omega), by
  have e : sl32 (r :: V) = sl32 V + d32 r.v := rfl
  rw [i52, h.2, e, Int32.add_assoc]⟩
theorem N8.cl {B : CS} {b : RS} {V : List RVW} {r : RVW} {S R : CS} {s u : RS} (h : N8 B b (r :: V) S s) (a48 : R.a 48 = S.a 48) (a49 : R.a 49 = S.a 49) (i52 : u.i 52 = s.i 52 - d32 r.v) (l : (u.i 38).toInt ≤ (s.i 38).toInt) : N8 B b V R u := ⟨fun k k1 k2 => by rw [a48, a49]; exact h.1 k k1 (by omega), by
  have e : sl32 (r :: V) = sl32 V + d32 r.v := rfl
  rw [i52, h.2, e, ← Int32.add_assoc, Int32.add_sub_cancel]⟩
theorem d32.no {v : Int32} (h : ¬ (v = 212 ∨ v = 213 ∨ v = 215 ∨ v = 216 ∨ v = 304)) : d32 v = 0 := if_neg h
theorem d32.yes {v : Int32} (h : v = 212 ∨ v = 213 ∨ v = 215 ∨ v = 216 ∨ v = 304) : d32 v = 1 := if_pos h
/-- rows without an entry -/
theorem N8.p0 {B : CS} {b : RS} {V : List RVW} {r : RVW} {S R : CS} {s u : RS} (h : N8 B b V S s) (n : ¬ (r.v = 212 ∨ r.v = 213 ∨ r.v = 215 ∨ r.v = 216 ∨ r.v = 304)) (g : NK False S s R u) : N8 B b (r :: V) R u := (h.nk g).ps rfl rfl (by rw [d32.no n, Int32.add_zero]) (Int.le_refl _)
theorem N8.c0 {B : CS} {b : RS} {V : List RVW} {r : RVW} {S R : CS} {s u : RS} (h : N8 B b (r :: V) S s) (n : ¬ (r.v = 212 ∨ r.v = 213 ∨ r.v = 215 ∨ r.v = 216 ∨ r.v = 304)) (g : NK False S s R u) : N8 B b V R u := (h.nk g).cl rfl rfl (by rw [d32.no n, Int32.sub_zero]) (Int.le_refl _)
theorem NK.of {t : Prop} {S R : CS} {s u : RS} {d e c : Int} (x : CD1 d e S R) (y : CD2 c s u) (n50 : S.i 50 = s.i 38) (e38 : u.i 38 = s.i 38 ∨ t) : NK t S s R u := ⟨y.1.2.2.2.2.2, e38, fun k hk => x.2.2.2.2.1 k (by rw [n50]; exact hk)⟩
theorem NK.eq {t : Prop} {S R : CS} {s u : RS} (a48 : R.a 48 = S.a 48) (a49 : R.a 49 = S.a 49) (i52 : u.i 52 = s.i 52) (i38 : u.i 38 = s.i 38) : NK t S s R u := ⟨i52, Or.inl i38, fun k _ => by rw [a48, a49]; exact ⟨rfl, rfl⟩⟩
/-- the code of the rows that are open -/
def JRW (A : JBA) (U : RS) (B : CS) (b : RS) (V : List RVW) (S : CS) (s : RS) : Prop := CRQB B → (∃ e : Int, (e = 0 ∨ (e = 1 ∧ ¬ ALN (S.i 43))) ∧ KD1 0 e B S) ∧ (CT7 0 (B.i 21).toInt B S ∧ N8 B b V S s) ∧ KD2 (b.i 20).toInt b s ∧ ∃ (Ψ : GPS) (G : GHT) (col : Nat → Option (Nat × Bool)) (YJ : Nat → List Nat), SAX V Ψ B b S s ∧ PIN V col s ∧ TGI B V S ∧ (JSI Ψ V col YJ b s ∧ (∃ e : Int, (e = 0 ∨ (e = 1 ∧ ¬ ALN (S.i 43))) ∧ KD1 (-(DB G V)) e B S) ∧ HDS B V S ∧ SWT (b.i 24).toInt G V S s) ∧ ∀ (FC : Nat → Prop) (SF : CS) (nm : Nat → Nat → Prop) (X : Als) (h0 ω : Nat) (c0 : List Ent), Ψ FC nm → NMG nm c0 B b → HC0 nm h0 c0 → ((2 * h0 + msr c0 : Nat) : Int) ≤ (b.i 11).toInt + 1 → 1300 ≤ ω → JNM nm (JCX G ω h0 c0 V) S s (DPM G (frs c0) c0.length s V) ∧ (FGD V B S SF → FGP V col b s U → A FC SF nm X h0 ω c0 → TYC SF U (GU FC SF U nm X) ω c0 → JRS FC SF U nm X G col YJ ω h0 c0 V → (S.i 36 = 1 → GU2 FC SF U nm X (pcC S) (pcR s) (JCX G ω h0 c0 V).h (ω + (JCX G ω h0 c0 V).l - pcC S) (JCX G ω h0 c0 V).c) → GU2 FC SF U nm X (pcC B) (pcR b) h0 (ω - pcC B) c0 ∧ JHS FC SF U nm X G ω h0 c0 V)
theorem JRW.n5 {A : JBA} {U : RS} {B : CS} {b : RS} {V : List RVW} {S : CS} {s : RS} (h : JRW A U B b V S s) (crB : CRQB B) : ∀ r ∈ V, ¬ r.v = 305 := by
  obtain ⟨-, -, -, _, _, _, _, -, -, -, ⟨-, -, -, -, sp⟩, -⟩ := h crB
  exact fun r hr => (sp r hr).2.2
/-- names, the signs that are open aside -/
def NMH (nm : Nat → Nat → Prop) (c : List Ent) (S : CS) (s : RS) : Prop := (∀ k : Nat, (k : Int) < (s.i 38).toInt → ((S.a 49 k).toInt < 0 → ∃ a b : Nat, (S.a 48 k).toInt = (a : Int) ∧ (s.a 40 k).toInt = (b : Int) ∧ nm a b) ∧ (0 ≤ (S.a 49 k).toInt → ∃ (c1 : List Ent) (e : Ent) (c0 : List Ent), c = c1 ++ e :: c0 ∧ e.k = 2 ∧ (S.a 48 k).toInt = (e.z : Int) ∧ (s.a 40 k).toInt = (e.w : Int) ∧ (S.a 49 k).toInt = (frs c0 : Int))) ∧ (frs c : Int) = (S.i 38).toInt ∧ (c.length : Int) = (s.i 52).toInt ∧ NCB c S s
theorem NMG.h {nm : Nat → Nat → Prop} {c : List Ent} {S : CS} {s : RS} (h : NMG nm c S s) : NMH nm c S s := ⟨h.1, h.2.1, h.2.2.1, h.2.2.2.2⟩
theorem NMH.g {nm : Nat → Nat → Prop} {c : List Ent} {S : CS} {s : RS} (h : NMH nm c S s) (l : (frs c : Int) ≤ (s.i 19).toInt) : NMG nm c S s := ⟨h.1, h.2.1, h.2.2.1, l, h.2.2.2⟩
theorem NMH.mv {nm : Nat → Nat → Prop} {c : List Ent} {S P : CS} {s q : RS} {d e : Int} (h : NMH nm c S s) (n : S.i 50 = s.i 38) (x : CD1 d e S P) {c' : Int} (y : CD2 c' s q) (e38 : q.i 38 = s.i 38) (a40 : ∀ j : Nat, (j : Int) < (s.i 38).toInt → q.a 40 j = s.a 40 j) : NMH nm c P q := by
  refine ⟨fun k hk => ?_, by rw [x.2.2.2.2.2.2.1]; exact h.2.1, by rw [y.1.2.2.2.2.2]; exact h.2.2.1, h.2.2.2.mv x.2.2.2.2.2.1.1 y.1.2.2.2.2.1⟩
  rw [e38] at hk
  obtain ⟨x1, x2⟩ := x.2.2.2.2.1 k (by rw [n]; exact hk)
  rw [x1, x2, a40 k hk]
  exact h.1 k hk
/-- what is known at a place inside a statement -/
def JKT : Type := (Nat → Prop) → CS → (Nat → Nat → Prop) → Als → Nat → JCT → Prop → Prop
/-- cells that wait for their row -/
def WGD (r : RVW) : Prop := r.v = 996 ∨ (isTyv r ∧ ¬ r.2.2.1 = 0)
def WNC (nm : Nat → Nat → Prop) (r : RVW) (S : CS) (c : List Ent) : Prop := 0 ≤ (r.1 9).toInt ∧ ∀ k : Nat, (r.1 9).toInt ≤ (k : Int) → (k : Int) < (r.1 9).toInt + 2 + (r.1 10).toInt → (k : Int) < (S.i 23).toInt ∧ k < 720 ∧ (∀ l : Nat, ¬ nm k l) ∧ ∀ e ∈ c, ¬ cel e k
/-- and a try's row that closes -/
def WNM (nm : Nat → Nat → Prop) (W : List RVW) (S : CS) (c : List Ent) : Prop := ∀ r ∈ W, WGD r → (r.v = 996 → WNC nm r S c) ∧ (isTyv r → (r.1 2).toInt = (frs c : Int) ∧ NT5 (r.1 9) ∧ TGT3 r)
theorem WNM.mv {nm : Nat → Nat → Prop} {W W' : List RVW} {S R : CS} {c : List Ent} (h : WNM nm W S c) (l : (S.i 23).toInt ≤ (R.i 23).toInt) (hw : ∀ r ∈ W', WGD r → r ∈ W) : WNM nm W' R c := fun r hr hv => ⟨fun e => ⟨((h r (hw r hr hv) hv).1 e).1, fun k k1 k2 => by
  obtain ⟨z1, z2⟩ := ((h r (hw r hr hv) hv).1 e).2 k k1 k2
  exact ⟨by omega, z2⟩⟩, (h r (hw r hr hv) hv).2⟩
/-- and the depths of the goals -/
def WND (nm : Nat → Nat → Prop) (W : List RVW) (S : CS) (c : List Ent) (D : Prop) : Prop := WNM nm W S c ∧ D
theorem WND.mv {nm : Nat → Nat → Prop} {W W' : List RVW} {S R : CS} {c : List Ent} {D : Prop} (h : WND nm W S c D) (l : (S.i 23).toInt ≤ (R.i 23).toInt) (hw : ∀ r ∈ W', WGD r → r ∈ W) : WND nm W' R c D := ⟨h.1.mv l hw, h.2⟩
theorem WGD.no {r : RVW} (h : ¬ r.v = 996) (p : r.2.2.1 = 0) : ¬ WGD r := fun q => q.elim h (fun z => z.2 p)
/-- the tries among what waits: rows that close -/
def rjw : List RVW → List RVW
  | [] => []
  | r :: W => if (r.v = 213 ∨ r.v = 215 ∨ r.v = 305 ∨ r.v = 216) ∧ ¬ r.2.2.1 = 0 then r :: rjw W else rjw W
/-- counts -/
def KDC (s u : RS) : Prop := ((s.i 20).toInt ≤ (u.i 20).toInt ∧ (s.i 24).toInt ≤ (u.i 24).toInt ∧ (s.i 29).toInt ≤ (u.i 29).toInt ∧ (s.i 33).toInt ≤ (u.i 33).toInt ∧ SLC s u) ∧ True
theorem KD2.c {c : Int} {s u : RS} (h : KD2 c s u) : KDC s u := ⟨h.1, True.intro⟩
theorem KDC.tr {c : Int} {s u v : RS} (h : KDC s u) (y : KD2 c u v) : KDC s v := by
  obtain ⟨⟨h1, h2, h3, h4, h9⟩, -⟩ := h
  obtain ⟨⟨g1, g2, g3, g4, g9⟩, -⟩ := y
  exact ⟨⟨by omega, by omega, by omega, by omega, h9.tr g9⟩, True.intro⟩
theorem KDC.rf (s : RS) : KDC s s := (KD2.rf 0 s).c
/-- jumps, while a statement is read or a row closes -/
def JSJ (Ψ : GPS) (W V0 : List RVW) (col : Nat → Option (Nat × Bool)) (YJ : Nat → List Nat) (b s0 s : RS) : Prop := JSI Ψ (rjw W ++ V0) col YJ b s0 ∧ ((∀ r ∈ W ++ V0, ∀ k : Nat, rsite r k → col k = none) ∧ SDI V0 ∧ ∀ w ∈ W, ∀ k : Nat, rsite w k → ∀ q ∈ V0, ¬ rsite q k) ∧ (∀ j : Nat, ¬ col j = none → s.a 22 j = s0.a 22 j) ∧ ∀ y : Nat, (y : Int) < (s0.i 29).toInt → ¬ PTY (rjw W) y → s.a 31 y = s0.a 31 y
theorem JSJ.mv {Ψ Ψ' : GPS} {W W' V0 : List RVW} {col : Nat → Option (Nat × Bool)} {YJ : Nat → List Nat} {b s0 s u : RS} (h : JSJ Ψ W V0 col YJ b s0 s) (hW : rjw W' = rjw W) (hn : ∀ r ∈ W', r ∈ W ∨ ∀ k : Nat, rsite r k → col k = none ∧ ∀ q ∈ V0, ¬ rsite q k) (c : KDC s0 s) (y : KD2 (s0.i 20).toInt s u) (ps : ∀ (FC : Nat → Prop) (nm : Nat → Nat → Prop), Ψ' FC nm → Ψ FC nm) : JSJ Ψ' W' V0 col YJ b s0 u := by
  obtain ⟨h1, h2, h3, h4⟩ := h
  have c29 := c.1.2.2.1
  refine ⟨?_, ⟨fun r hr k q => ?_, h2.2.1, fun w hw k q => ?_⟩, fun j hj => ?_, fun w w1 w2 => ?_⟩
  · rw [hW]
    exact h1.mv (GKP.rf _) (KD2.rf _ _) ps
  · rcases List.mem_append.mp hr with z | z
    · rcases hn r z with z | z
      · exact h2.1 r (List.mem_append_left _ z) k q
      · exact (z k q).1
    · exact h2.1 r (List.mem_append_right _ z) k q
  · rcases hn w hw with z | z
    · exact h2.2.2 w z k q
    · exact (z k q).2
  · exact ((y.2.1 j (h1.lt j hj)).2.1).trans (h3 j hj)
  · rw [hW] at w2
    exact ((y.2.2.2.1 w (by omega)).2.1).trans (h4 w w1 w2)
/-- inside a statement that began at s0 with the rows V0: W waits -/
def JRG (A : JBA) (U : RS) (B : CS) (b : RS) (V0 : List RVW) (s0 : RS) (W : List RVW) (K : JKT) (a e : Int) (S : CS) (s : RS) : Prop := CRQB B → KD1 a e B S ∧ (CT7 0 (B.i 21).toInt B S ∧ N8 B b V0 S s) ∧ KD2 (b.i 20).toInt b s ∧ KDC s0 s ∧ ∃ (Ψ : GPS) (G : GHT) (col : Nat → Option (Nat × Bool)) (YJ : Nat → List Nat), SAX (W ++ V0) Ψ B b S s ∧ (PIN (W ++ V0) col s ∧ PIN V0 col s0) ∧ TGI B (W ++ V0) S ∧ (JSJ Ψ W V0 col YJ b s0 s ∧ KD1 (a - DB G V0) e B S ∧ HDS B (W ++ V0) S ∧ SWT (b.i 24).toInt G V0 S s) ∧ ∀ (FC : Nat → Prop) (SF : CS) (nm : Nat → Nat → Prop) (X : Als) (h0 ω : Nat) (c0 : List Ent), Ψ FC nm → NMG nm c0 B b → HC0 nm h0 c0 → ((2 * h0 + msr c0 : Nat) : Int) ≤ (b.i 11).toInt + 1 → 1300 ≤ ω → ((NMH nm (JCX G ω h0 c0 V0).c S s ∧ (frs (JCX G ω h0 c0 V0).c : Int) ≤ (s0.i 19).toInt) ∧ HC0 nm (JCX G ω h0 c0 V0).h (JCX G ω h0 c0 V0).c ∧ ((2 * (JCX G ω h0 c0 V0).h + msr (JCX G ω h0 c0 V0).c : Nat) : Int) ≤ (s0.i 11).toInt ∧ WND nm W S (JCX G ω h0 c0 V0).c (DPM G (frs c0) c0.length s0 V0)) ∧ (FGD (W ++ V0) B S SF → FGP (W ++ V0) col b s U → A FC SF nm X h0 ω c0 → TYC SF U (GU FC SF U nm X) ω c0 → JRS FC SF U nm X G col YJ ω h0 c0 V0 → K FC SF nm X ω (JCX G ω h0 c0 V0) (GU2 FC SF U nm X (pcC B) (pcR b) h0 (ω - pcC B) c0 ∧ JHS FC SF U nm X G ω h0 c0 V0))
/-- the reference has what was laid from s to u, but for the second word of one site -/
def FGY (y : Int) (s u U : RS) : Prop := (0 ≤ (s.i 20).toInt ∧ (u.i 20).toInt ≤ (U.i 20).toInt ∧ (U.i 20).toInt ≤ 3000) ∧ (∀ j : Nat, (s.i 20).toInt ≤ (j : Int) → (j : Int) < (u.i 20).toInt → U.a 21 j = u.a 21 j ∧ (¬ (j : Int) = y → U.a 22 j = u.a 22 j) ∧ U.a 23 j = u.a 23 j) ∧ (∀ j : Nat, (s.i 24).toInt ≤ (j : Int) → (j : Int) < (u.i 24).toInt → U.a 25 j = u.a 25 j ∧ U.a 26 j = u.a 26 j ∧ U.a 27 j = u.a 27 j ∧ U.a 28 j = u.a 28 j) ∧ (∀ j : Nat, (s.i 29).toInt ≤ (j : Int) → (j : Int) < (u.i 29).toInt → U.a 30 j = u.a 30 j ∧ U.a 31 j = u.a 31 j ∧ U.a 32 j = u.a 32 j) ∧ ∀ j : Nat, (s.i 33).toInt ≤ (j : Int) → (j : Int) < (u.i 33).toInt → U.a 34 j = u.a 34 j ∧ U.a 35 j = u.a 35 j ∧ U.a 36 j = u.a 36 j ∧ U.a 37 j = u.a 37 j
theorem FGY.r {y : Int} {s u U : RS} (h : FGY y s u U) (hy : y < 0) : FGR s u U := ⟨h.1, fun j j1 j2 => ⟨(h.2.1 j j1 j2).1, (h.2.1 j j1 j2).2.1 (by omega), (h.2.1 j j1 j2).2.2⟩, h.2.2⟩
/-- a step inside a statement; y: a site that waits from here on -/
def JSPT (t : Prop) (y : Int) (a e a1 e1 : Int) (U s0 : RS) (K K' : JKT) (S : CS) (s : RS) (R : CS) (u : RS) : Prop := RMS a e S → ∃ Ψ : GPS, KD1 a1 e1 S R ∧ (CT7 0 (S.i 21).toInt S R ∧ NK t S s R u) ∧ KD2 (s.i 20).toInt s u ∧ SAT Ψ S s R u ∧ (∀ (FC : Nat → Prop) (nm : Nat → Nat → Prop) (c : List Ent), Ψ FC nm → (frs c : Int) ≤ (s0.i 19).toInt → NMH nm c S s → NMH nm c R u) ∧ ∀ (FC : Nat → Prop) (SF : CS) (nm : Nat → Nat → Prop) (X : Als) (ω : Nat) (j : JCT) (Z : Prop), Ψ FC nm → FGC S R SF → FGY y s u U → NMH nm j.c S s ∧ (frs j.c : Int) ≤ (s0.i 19).toInt → HC0 nm j.h j.c → ((2 * j.h + msr j.c : Nat) : Int) ≤ (s0.i 11).toInt → TYC SF U (GU FC SF U nm X) (ω + j.t) j.c → j.t ≤ j.l → 1300 ≤ ω → K FC SF nm X ω j Z → K' FC SF nm X ω j Z
/-- no name is told -/
def JSP (y : Int) (a e a1 e1 : Int) (U s0 : RS) (K K' : JKT) (S : CS) (s : RS) (R : CS) (u : RS) : Prop := JSPT False y a e a1 e1 U s0 K K' S s R u
theorem FGC.subk {S R SF P Q : CS} {a b a' b' : Int} (h : FGC S R SF) (x : KD1 a a' S P) (y : KD1 b b' Q R) (t : CT7 (P.i 21).toInt (Q.i 21).toInt Q R) : FGC P Q SF := by
  obtain ⟨⟨h1, h2⟩, h3, h4⟩ := h
  obtain ⟨⟨x1, -⟩, -, x3, -⟩ := x
  obtain ⟨⟨y1, -⟩, y2, y3, -⟩ := y
  refine ⟨⟨by omega, by omega⟩, fun j j1 j2 => ?_, fun k k1 k2 k3 => ?_⟩
  · have u := h3 j (by omega) (by omega)
    have v := y2 j j2
    exact ⟨u.1.trans v.1, u.2.trans v.2⟩
  · exact (h4 k (by omega) (by omega) (k3.elim (fun q => Or.inl (by rw [t k k1 k2]; exact q)) (fun q => Or.inr (by omega)))).trans (t k k1 k2)
/-- a row less, a state before -/
theorem FGD.pre {V V' : List RVW} {B S R SF : CS} {a a' : Int} (h : FGD V' B R SF) (x : KD1 a a' S R) (t : CT7 (B.i 21).toInt (S.i 21).toInt S R) (hp : ∀ y ∈ ptl V', y ∈ ptl V ∨ (S.i 21).toInt ≤ y.toInt) : FGD V B S SF := by
  obtain ⟨⟨h1, h2⟩, h3, h4⟩ := h
  obtain ⟨⟨x1, -⟩, y2, x3, -⟩ := x
  refine ⟨⟨by omega, by omega⟩, fun j j1 j2 => ?_, fun k k1 k2 k3 => ?_⟩
  · have u := h3 j (by omega) (by omega)
    have v := y2 j j2
    exact ⟨u.1.trans v.1, u.2.trans v.2⟩
  · refine (h4 k (by omega) (by omega) (k3.elim (fun q => Or.inl (by rw [t k k1 k2]; exact q)) (fun q => Or.inr ⟨by omega, fun y hy e => ?_⟩))).trans (t k k1 k2)
    rcases hp y hy with z | z
    · exact q.2 y z e
    · omega
/-- what was laid since S -/
theorem FGD.stp {V : List RVW} {B S R SF : CS} {a a' : Int} (h : FGD V B R SF) (x : KD1 a a' B S) (hp : ∀ y ∈ ptl V, y.toInt < (S.i 21).toInt) : FGC S R SF := by
  obtain ⟨⟨h1, h2⟩, h3, h4⟩ := h
  obtain ⟨⟨x1, -⟩, -, x3, -⟩ := x
  refine ⟨⟨by omega, h2⟩, fun j j1 j2 => h3 j (by omega) j2, fun k k1 k2 k3 => h4 k (by omega) k2 (k3.elim Or.inl (fun q => Or.inr ⟨q, fun y hy e => ?_⟩))⟩
  have := hp y hy
  omega
theorem FGD.pl {V V' : List RVW} {B S SF : CS} (h : FGD V B S SF) (hp : ∀ y ∈ ptl V, y ∈ ptl V') : FGD V' B S SF := ⟨h.1, h.2.1, fun k k1 k2 k3 => h.2.2 k k1 k2 (k3.elim Or.inl (fun q => Or.inr ⟨q.1, fun y hy => q.2 y (hp y hy)⟩))⟩
/-- a site that waits, a target that waits -/
def sv (y : Int32) : RVW := (fun _ => 999, fun _ => y, 0, 0)
/-- a switch's head that waits -/
def sv5 (y : Int32) : RVW := (fun _ => 995, fun _ => y, 0, 0)
def tv (x : Int32) : RVW := (fun k => if k = 0 then 997 else x, fun _ => 0, 0, 0)
theorem sv.v {y : Int32} : (sv y).v = 999 := rfl
theorem tv.v {x : Int32} : (tv x).v = 997 := rfl
theorem sv.site {y : Int32} {k : Nat} : rsite (sv y) k ↔ (k : Int) = y.toInt := by
  constructor
  · intro h
    rcases h with ⟨h, -⟩ | ⟨h, -⟩ | ⟨h, -⟩ | ⟨-, h⟩
    · rcases h with h | h | h <;> exact absurd h (by rw [sv.v]; decide)
    · exact absurd h (by rw [sv.v]; decide)
    · rcases h with h | h <;> exact absurd h (by rw [sv.v]; decide)
    · exact h
  · exact fun h => Or.inr (Or.inr (Or.inr ⟨Or.inl rfl, h⟩))
theorem tv.site {x : Int32} {k : Nat} : ¬ rsite (tv x) k := fun h => by
  rcases h with ⟨h, -⟩ | ⟨h, -⟩ | ⟨h, -⟩ | ⟨h, -⟩
  · rcases h with h | h | h <;> exact absurd h (by rw [tv.v]; decide)
  · exact absurd h (by rw [tv.v]; decide)
  · rcases h with h | h <;> exact absurd h (by rw [tv.v]; decide)
  · rcases h with h | h <;> exact absurd h (by rw [tv.v]; decide)
theorem sv.ty {y : Int32} : ¬ isTyv (sv y) := fun e => by
  rcases e with z | z | z | z <;> exact absurd z (by rw [sv.v]; decide)
theorem tv.ty {x : Int32} : ¬ isTyv (tv x) := fun e => by
  rcases e with z | z | z | z <;> exact absurd z (by rw [tv.v]; decide)
theorem sv.tgs {y : Int32} : rtgs (sv y) = [] := by
  unfold rtgs
  rw [sv.v, if_neg (by decide), if_neg (by decide), if_neg (by decide), if_neg (by decide), if_neg (by decide)]
theorem tv.tgs {x : Int32} : rtgs (tv x) = [x] := by
  unfold rtgs
  rw [tv.v, if_neg (by decide), if_pos (by decide)]
  rfl
theorem rhd.no {r : RVW} (h : ¬ (r.v = 205 ∨ r.v = 206 ∨ r.v = 207 ∨ r.v = 304 ∨ r.v = 994 ∨ r.v = 204)) : ∀ x : Int32, ¬ rhd r x := fun x z => by
  rcases z with ⟨z | z | z | z, -⟩ | ⟨z, -⟩ | ⟨z, -⟩
  · exact h (Or.inl z)
  · exact h (Or.inr (Or.inr (Or.inl z)))
  · exact h (Or.inr (Or.inr (Or.inr (Or.inl z))))
  · exact h (Or.inr (Or.inr (Or.inr (Or.inr (Or.inr z)))))
  · exact h (Or.inr (Or.inl z))
  · exact h (Or.inr (Or.inr (Or.inr (Or.inr (Or.inl z)))))
theorem sv.hd {y : Int32} : ∀ x : Int32, ¬ rhd (sv y) x := rhd.no (by rw [sv.v]; decide)
theorem tv.hd {y : Int32} : ∀ x : Int32, ¬ rhd (tv y) x := rhd.no (by rw [tv.v]; decide)
/-- a head that is aimed -/
def hv (x : Int32) : RVW := (fun k => if k = 0 then 994 else x, fun _ => 0, 0, 0)
theorem hv.v {x : Int32} : (hv x).v = 994 := rfl
theorem hv.site {x : Int32} {k : Nat} : ¬ rsite (hv x) k := fun h => by
  rcases h with ⟨h, -⟩ | ⟨h, -⟩ | ⟨h, -⟩ | ⟨h, -⟩
  · rcases h with h | h | h <;> exact absurd h (by rw [hv.v]; decide)
  · exact absurd h (by rw [hv.v]; decide)
  · rcases h with h | h <;> exact absurd h (by rw [hv.v]; decide)
  · rcases h with h | h <;> exact absurd h (by rw [hv.v]; decide)
theorem hv.ty {x : Int32} : ¬ isTyv (hv x) := fun e => by
  rcases e with z | z | z | z <;> exact absurd z (by rw [hv.v]; decide)
theorem hv.tgs {x : Int32} : rtgs (hv x) = [] := by
  unfold rtgs
  rw [hv.v, if_neg (by decide), if_neg (by decide), if_neg (by decide), if_neg (by decide), if_neg (by decide)]
theorem rjw.n {r : RVW} {W : List RVW} (h : ¬ ((r.v = 213 ∨ r.v = 215 ∨ r.v = 305 ∨ r.v = 216) ∧ ¬ r.2.2.1 = 0)) : rjw (r :: W) = rjw W := if_neg h
theorem rjw.y {r : RVW} {W : List RVW} (h : (r.v = 213 ∨ r.v = 215 ∨ r.v = 305 ∨ r.v = 216) ∧ ¬ r.2.2.1 = 0) : rjw (r :: W) = r :: rjw W := if_pos h
theorem sv.rj (y : Int32) (W : List RVW) : rjw (sv y :: W) = rjw W := rjw.n (fun z => absurd z.1 (by rw [sv.v]; decide))
theorem tv.rj (x : Int32) (W : List RVW) : rjw (tv x :: W) = rjw W := rjw.n (fun z => absurd z.1 (by rw [tv.v]; decide))
theorem rjw.mid {r : RVW} (h : ∀ W : List RVW, rjw (r :: W) = rjw W) : ∀ (W1 W2 : List RVW), rjw (W1 ++ r :: W2) = rjw (W1 ++ W2)
  | [], W2 => h W2
  | q :: W1, W2 => by
    have ih := rjw.mid h W1 W2
    show (if (q.v = 213 ∨ q.v = 215 ∨ q.v = 305 ∨ q.v = 216) ∧ ¬ q.2.2.1 = 0 then q :: rjw (W1 ++ r :: W2) else rjw (W1 ++ r :: W2)) = (if (q.v = 213 ∨ q.v = 215 ∨ q.v = 305 ∨ q.v = 216) ∧ ¬ q.2.2.1 = 0 then q :: rjw (W1 ++ W2) else rjw (W1 ++ W2))
    rw [ih]
theorem hv.rj (x : Int32) (W : List RVW) : rjw (hv x :: W) = rjw W := rjw.n (fun z => absurd z.1 (by rw [hv.v]; decide))
theorem tv.rm {x : Int32} (W1 W2 : List RVW) : rjw (W1 ++ tv x :: W2) = rjw (W1 ++ W2) := rjw.mid (tv.rj x) W1 W2
theorem sv.rm {x : Int32} (W1 W2 : List RVW) : rjw (W1 ++ sv x :: W2) = rjw (W1 ++ W2) := rjw.mid (sv.rj x) W1 W2
theorem PTY.ap {W V : List RVW} {k : Nat} (h : PTY V k) : PTY (W ++ V) k := by
  obtain ⟨r, hr, p⟩ := h
  exact ⟨r, List.mem_append_right _ hr, p⟩
/-- a row less in front: only its site is other -/
theorem FGP.svl {y : Int32} {V : List RVW} {col : Nat → Option (Nat × Bool)} {b s U : RS} (h : FGP (sv y :: V) col b s U) (hy : (s.i 20).toInt ≤ y.toInt) : FGP V col b s U := by
  obtain ⟨h1, h4, h5, h6, h7⟩ := h
  exact ⟨h1, fun j j1 j2 => ⟨(h4 j j1 j2).1, fun q => (h4 j j1 j2).2.1 (fun p => q (p.nt (fun z => by have := sv.site.mp z; omega))), fun q => (h4 j j1 j2).2.2 (fun p => q (p.nt (by rw [sv.v]; decide)))⟩, fun j j1 j2 => ⟨(h5 j j1 j2).1, (h5 j j1 j2).2.1, fun q => (h5 j j1 j2).2.2.1 (fun p => q (p.nt (by rw [sv.v]; decide))), (h5 j j1 j2).2.2.2⟩, fun j j1 j2 q => h6 j j1 j2 (fun p => q (p.nt sv.ty)), fun j j1 j2 => ⟨(h7 j j1 j2).1, (h7 j j1 j2).2.1, (h7 j j1 j2).2.2.1, fun q => (h7 j j1 j2).2.2.2 (fun p => q (p.nt sv.ty))⟩⟩
/-- the part behind s: but for one site nothing in it waits -/
theorem FGP.sny {y : Int} {V : List RVW} {col : Nat → Option (Nat × Bool)} {b s u U : RS} {c : Int} (h : FGP V col b u U) (x : KD2 c b s) (p1 : ∀ k : Nat, PEN V col k → (k : Int) < (s.i 20).toInt ∨ (k : Int) = y) (p5 : ∀ k : Nat, PCH V k → (k : Int) < (s.i 20).toInt) (p2 : ∀ k : Nat, PCZ V k → (k : Int) < (s.i 24).toInt) (p3 : ∀ k : Nat, PTY V k → (k : Int) < (s.i 29).toInt) (p4 : ∀ k : Nat, PCA V k → (k : Int) < (s.i 33).toInt) : FGY y s u U := by
  obtain ⟨⟨h1, h2, h3⟩, h4, h5, h6, h7⟩ := h
  obtain ⟨⟨x1, x2, x3, x4, -⟩, -⟩ := x
  refine ⟨⟨by omega, h2, h3⟩, fun j j1 j2 => ?_, fun j j1 j2 => ?_, fun j j1 j2 => ?_, fun j j1 j2 => ?_⟩
  · have a := h4 j (by omega) j2
    exact ⟨a.1, fun n => a.2.1 (fun q => by have := p1 j q; omega), a.2.2 (fun q => by have := p5 j q; omega)⟩
  · have a := h5 j (by omega) j2
    exact ⟨a.1, a.2.1, a.2.2.1 (fun q => by have := p2 j q; omega), a.2.2.2⟩
  · exact h6 j (by omega) j2 (fun q => by have := p3 j q; omega)
  · have a := h7 j (by omega) j2
    exact ⟨a.1, a.2.1, a.2.2.1, a.2.2.2 (fun q => by have := p4 j q; omega)⟩
section
variable {A : JBA} {U : RS} {B : CS} {b : RS} {V0 : List RVW} {s0 : RS} {W : List RVW} {K K' : JKT} {a e a1 e1 : Int} {S R : CS} {s u : RS}
/-- a step -/
theorem JRG.codT {t : Prop} (h : JRG A U B b V0 s0 W K a e S s) (hb : t → (b.i 38).toInt ≤ (s.i 38).toInt) (x : JSPT t (-1) a e a1 e1 U s0 K K' S s R u) : JRG A U B b V0 s0 W K' (a + a1) (e + e1) R u := by
  intro crB
  obtain ⟨b1, ⟨b2, n8⟩, b3, b4, Ψ, G, col, YJ, sax, ⟨pin, pin0⟩, tgi, jsi, main⟩ := h crB
  obtain ⟨Ψ', x1, ⟨x2, nk⟩, x3, sat, xn, xk⟩ := x (crB.rms b1)
  have l21 := b1.2.2.1
  have lb := b3.1.1
  have l4 := b4.1.1
  refine ⟨b1.tr x1, ⟨b2.tr (x2.wk (Int.le_refl _) l21), n8.nt hb nk⟩, b3.tr (x3.wk lb), b4.tr (x3.wk l4), GPS.an Ψ Ψ', G, col, YJ, sax.an sat (MNO.ofk b1 b3) (MNO.ofk x1 x3) pin.2.2.1, ⟨pin.up x3, pin0⟩, tgi.mv crB.1.1.2.1 x1.2.2.1 x2, ⟨jsi.1.mv rfl (fun r hr => Or.inl hr) b4 (x3.wk l4) (fun _ _ q => q.1), (jsi.2.1.tr x1).wk (by omega) (Int.le_refl _), jsi.2.2.1.mv crB.1.1.2.1 x1.2.2.1 x1.1.1 x2 (fun r hr _ _ => hr), jsi.2.2.2.kd x1 x3⟩, ?_⟩
  intro FC SF nm X h0 ω c0 psi ng0 hc0 hh0 hω
  obtain ⟨⟨ng, hc, hh, wn⟩, mn⟩ := main FC SF nm X h0 ω c0 psi.1 ng0 hc0 hh0 hω
  refine ⟨⟨⟨xn FC nm _ psi.2 ng.2 ng.1, ng.2⟩, hc, hh, wn.mv x1.2.2.2.1.1 (fun _ hr _ => hr)⟩, fun fc fg hA tyc jr => ?_⟩
  have fc1 : FGD (W ++ V0) B S SF := fc.pre x1 (x2.wk crB.1.1.2.1 (Int.le_refl _)) (fun _ hy => Or.inl hy)
  have fg1 := fg.fst x3 (Int.le_refl _)
  have fc2 : FGC S R SF := fc.stp b1 (fun y hy => (tgi.2 y hy).2.1)
  have fg2 : FGY (-1) s u U := fg.sny b3 (fun k q => Or.inl (pin.1 k q)) (fun k q => pin.1 k q.pen) pin.2.1 pin.2.2.1 pin.2.2.2
  exact xk FC SF nm X ω _ _ psi.2 fc2 fg2 ng hc hh (JRS.ty tyc V0 jr) (JCX.tl G ω h0 c0 V0) hω (mn fc1 fg1 hA tyc jr)
theorem JRG.cod (h : JRG A U B b V0 s0 W K a e S s) (x : JSP (-1) a e a1 e1 U s0 K K' S s R u) : JRG A U B b V0 s0 W K' (a + a1) (e + e1) R u := h.codT False.elim x
/-- a step with a site that waits from here on -/
theorem JRG.sitT {t : Prop} {y : Int32} (h : JRG A U B b V0 s0 W K a e S s) (hb : t → (b.i 38).toInt ≤ (s.i 38).toInt) (x : JSPT t y.toInt a e a1 e1 U s0 K K' S s R u) (hy : (s.i 20).toInt ≤ y.toInt ∧ y.toInt < (u.i 20).toInt) : JRG A U B b V0 s0 (sv y :: W) K' (a + a1) (e + e1) R u := by
  intro crB
  obtain ⟨b1, ⟨b2, n8⟩, b3, b4, Ψ, G, col, YJ, sax, ⟨pin, pin0⟩, tgi, jsi, main⟩ := h crB
  obtain ⟨Ψ', x1, ⟨x2, nk⟩, x3, sat, xn, xk⟩ := x (crB.rms b1)
  have l21 := b1.2.2.1
  have lb := b3.1.1
  have l4 := b4.1.1
  have pin' := pin.up x3
  have nco : ∀ k : Nat, (s.i 20).toInt ≤ (k : Int) → col k = none ∧ ∀ q ∈ V0, ¬ rsite q k := fun k hk => ⟨by
    cases ec : col k with
    | none => rfl
    | some x =>
      have := pin.1 k (Or.inl (by rw [ec]; exact fun z => by (cases z)))
      omega, fun q hq p => by
    have := pin0.1 k (Or.inr ⟨q, hq, p⟩)
    omega⟩
  have tg : ptl ((sv y :: W) ++ V0) = ptl (W ++ V0) := by
    show rtgs (sv y) ++ ptl (W ++ V0) = _
    rw [sv.tgs]
    rfl
  refine ⟨b1.tr x1, ⟨b2.tr (x2.wk (Int.le_refl _) l21), n8.nt hb nk⟩, b3.tr (x3.wk lb), b4.tr (x3.wk l4), GPS.an Ψ Ψ', G, col, YJ, (sax.an sat (MNO.ofk b1 b3) (MNO.ofk x1 x3) pin.2.2.1).nt sv.ty, ⟨⟨fun k q => ?_, fun k q => pin'.2.1 k (q.nt (by rw [sv.v]; decide)), fun k q => pin'.2.2.1 k (q.nt sv.ty), fun k q => pin'.2.2.2 k (q.nt sv.ty)⟩, pin0⟩, ?_, ⟨jsi.1.mv (sv.rj _ _) (fun r hr => (List.mem_cons.mp hr).elim (fun z => Or.inr (fun k q => by rw [z] at q; exact nco k (by have := sv.site.mp q; omega))) Or.inl) b4 (x3.wk l4) (fun _ _ q => q.1), (jsi.2.1.tr x1).wk (by omega) (Int.le_refl _), (jsi.2.2.1.mv crB.1.1.2.1 x1.2.2.1 x1.1.1 x2 (fun r hr _ _ => hr)).cs sv.hd, jsi.2.2.2.kd x1 x3⟩, ?_⟩
  · by_cases z : rsite (sv y) k
    · have := sv.site.mp z
      omega
    · exact pin'.1 k (q.nt z)
  · have z := tgi.mv crB.1.1.2.1 x1.2.2.1 x2
    unfold TGI at z ⊢
    rw [tg]
    exact z
  intro FC SF nm X h0 ω c0 psi ng0 hc0 hh0 hω
  obtain ⟨⟨ng, hc, hh, wn⟩, mn⟩ := main FC SF nm X h0 ω c0 psi.1 ng0 hc0 hh0 hω
  refine ⟨⟨⟨xn FC nm _ psi.2 ng.2 ng.1, ng.2⟩, hc, hh, wn.mv x1.2.2.2.1.1 (fun r hr hv => (List.mem_cons.mp hr).resolve_left (fun z => by rw [z] at hv; exact absurd hv (WGD.no (show ¬ (999 : Int32) = 996 by decide) rfl)))⟩, fun fc fg hA tyc jr => ?_⟩
  have fc1 : FGD (W ++ V0) B S SF := fc.pre x1 (x2.wk crB.1.1.2.1 (Int.le_refl _)) (fun _ hy => Or.inl (by rw [tg] at hy; exact hy))
  have fg1 : FGP (W ++ V0) col b s U := FGP.svl (fg.fst x3 (Int.le_refl _)) hy.1
  have fc2 : FGC S R SF := fc.stp b1 (fun z hz => by rw [tg] at hz; exact (tgi.2 z hz).2.1)
  have fg2 : FGY y.toInt s u U := fg.sny b3 (fun k q => ?_) (fun k q => pin.1 k (q.nt (by rw [sv.v]; decide)).pen) (fun k q => pin.2.1 k (q.nt (by rw [sv.v]; decide))) (fun k q => pin.2.2.1 k (q.nt sv.ty)) (fun k q => pin.2.2.2 k (q.nt sv.ty))
  · exact xk FC SF nm X ω _ _ psi.2 fc2 fg2 ng hc hh (JRS.ty tyc V0 jr) (JCX.tl G ω h0 c0 V0) hω (mn fc1 fg1 hA tyc jr)
  · by_cases z : rsite (sv y) k
    · exact Or.inr (sv.site.mp z)
    · exact Or.inl (pin.1 k (q.nt z))
theorem JRG.sit {y : Int32} (h : JRG A U B b V0 s0 W K a e S s) (x : JSP y.toInt a e a1 e1 U s0 K K' S s R u) (hy : (s.i 20).toInt ≤ y.toInt ∧ y.toInt < (u.i 20).toInt) : JRG A U B b V0 s0 (sv y :: W) K' (a + a1) (e + e1) R u := h.sitT False.elim x hy
/-- less is known -/
theorem JRG.imp (h : JRG A U B b V0 s0 W K a e S s) (la : a ≤ a1) (le : e ≤ e1) (x : ∀ (FC : Nat → Prop) (SF : CS) (nm : Nat → Nat → Prop) (X : Als) (ω : Nat) (j : JCT) (Z : Prop), HC0 nm j.h j.c → ((2 * j.h + msr j.c : Nat) : Int) ≤ (s0.i 11).toInt → TYC SF U (GU FC SF U nm X) (ω + j.t) j.c → j.t ≤ j.l → 1300 ≤ ω → (S.i 20).toInt ≤ 1200 → K FC SF nm X ω j Z → K' FC SF nm X ω j Z) : JRG A U B b V0 s0 W K' a1 e1 S s := by
  intro crB
  obtain ⟨b1, ⟨b2, n8⟩, b3, b4, Ψ, G, col, YJ, sax, ⟨pin, pin0⟩, tgi, jsi, main⟩ := h crB
  refine ⟨b1.wk la le, ⟨b2, n8⟩, b3, b4, Ψ, G, col, YJ, sax, ⟨pin, pin0⟩, tgi, ⟨jsi.1, jsi.2.1.wk (by omega) le, jsi.2.2⟩, ?_⟩
  intro FC SF nm X h0 ω c0 psi ng0 hc0 hh0 hω
  obtain ⟨⟨ng, hc, hh, wn⟩, mn⟩ := main FC SF nm X h0 ω c0 psi ng0 hc0 hh0 hω
  exact ⟨⟨ng, hc, hh, wn⟩, fun fc fg hA tyc jr => x FC SF nm X ω _ _ hc hh (JRS.ty tyc V0 jr) (JCX.tl G ω h0 c0 V0) hω fc.1.2 (mn fc fg hA tyc jr)⟩
/-- a target more -/
theorem JRG.nt {N : Nat} {w : Int32 × CS} (h : JRG A U B b V0 s0 W K a e S s) (e1 : f_X0_newTarget N S = some w) (h44 : (S.i 44).toInt ≤ 900) (he : e ≤ 100) : JRG A U B b V0 s0 (tv w.1 :: W) K a (e + 1) w.2 s := by
  intro crB
  obtain ⟨b1, ⟨b2, n8⟩, b3, b4, Ψ, G, col, YJ, sax, ⟨pin, pin0⟩, tgi, jsi, main⟩ := h crB
  obtain ⟨r1, r2, r3, r4, r5⟩ := crB.rms b1
  obtain ⟨x1, n2, n3, x4, n5, n6, n7, n9⟩ := cd_nt e1 r2 (by omega)
  have l21 := b1.2.2.1
  have b0 := crB.1.1.2.1
  have ng1 : ∀ (nm : Nat → Nat → Prop) (c : List Ent), NMH nm c S s → NMH nm c w.2 s := fun nm c z => by
    unfold f_X0_newTarget at e1
    cases e1
    exact z
  have neg : w.2.a 17 w.1.toNatClampNeg = -1 := by
    have ib1 : ib (S.i 21) 1024 := ⟨r2, by omega⟩
    have ew : w.2.a 17 = gPut (S.a 17) 1024 (S.i 21) (-1) := by
      unfold f_X0_newTarget at e1
      cases e1
      rfl
    rw [ew, n2]
    unfold gPut
    rw [if_pos ib1]
    exact if_pos rfl
  have w21 : w.1.toInt = (S.i 21).toInt := by rw [n2]
  have tg : ptl ((tv w.1 :: W) ++ V0) = w.1 :: ptl (W ++ V0) := by
    show rtgs (tv w.1) ++ ptl (W ++ V0) = _
    rw [tv.tgs]
    rfl
  refine ⟨(b1.tr x1.k).wk (by omega) (by omega), ⟨b2.tr ((x4 0).wk (Int.le_refl _) l21), n8.nk (NK.eq (by unfold f_X0_newTarget at e1; cases e1; rfl) (by unfold f_X0_newTarget at e1; cases e1; rfl) rfl rfl)⟩, b3, b4, Ψ, G, col, YJ, ?_, ⟨⟨fun k q => pin.1 k (q.nt tv.site), fun k q => pin.2.1 k (q.nt (by rw [tv.v]; decide)), fun k q => pin.2.2.1 k (q.nt tv.ty), fun k q => pin.2.2.2 k (q.nt tv.ty)⟩, pin0⟩, ?_, ⟨jsi.1.mv (tv.rj _ _) (fun r hr => (List.mem_cons.mp hr).elim (fun z => Or.inr (fun k q => by rw [z] at q; exact absurd q tv.site)) Or.inl) b4 (KD2.rf _ _) (fun _ _ q => q), (jsi.2.1.tr x1.k).wk (by omega) (by omega), (jsi.2.2.1.mv b0 x1.k.2.2.1 x1.k.1.1 (x4 0) (fun r hr _ _ => hr)).cs tv.hd, jsi.2.2.2.kd x1.k (KD2.rf _ _)⟩, ?_⟩
  · intro sl
    obtain ⟨t1, F, M, ⟨t2, t2'⟩, t3⟩ := sax sl
    have m23 : (w.2.i 23).toInt = (S.i 23).toInt := by
      unfold f_X0_newTarget at e1
      cases e1
      rfl
    exact ⟨⟨t1.1, fun k p => t1.2 k (p.nt tv.ty)⟩, F, M, ⟨fun k l z => by have := t2 k l z; omega, t2'⟩, fun FC nm q => t3 FC nm ⟨fun y y1 y2 y3 => q.1 y y1 y2 (fun p => y3 (p.nt tv.ty)), fun k l z => q.2 k l (by omega)⟩⟩
  · obtain ⟨t1, t2⟩ := tgi
    unfold TGI
    rw [tg]
    refine ⟨List.nodup_cons.mpr ⟨fun hm => ?_, t1⟩, fun x hx => ?_⟩
    · have := (t2 _ hm).2.1
      omega
    · rcases List.mem_cons.mp hx with z | z
      · rw [z]
        exact ⟨by omega, by omega, neg⟩
      · obtain ⟨k1, k2, k3⟩ := t2 x z
        have ck := clampI (show 0 ≤ x.toInt by omega)
        exact ⟨k1, by omega, ((x4 0) _ (by omega) (by omega)).trans k3⟩
  intro FC SF nm X h0 ω c0 psi ng0 hc0 hh0 hω
  obtain ⟨⟨ng, hc, hh, wn⟩, mn⟩ := main FC SF nm X h0 ω c0 psi ng0 hc0 hh0 hω
  refine ⟨⟨⟨ng1 nm _ ng.1, ng.2⟩, hc, hh, wn.mv x1.2.2.2.2.2.1.1 (fun r hr hv => (List.mem_cons.mp hr).resolve_left (fun z => by rw [z] at hv; exact absurd hv (WGD.no (show ¬ (997 : Int32) = 996 by decide) rfl)))⟩, fun fc fg hA tyc jr => mn (fc.pre x1.k (x4 _) (fun y hy => by
    rw [tg] at hy
    rcases List.mem_cons.mp hy with z | z
    · exact Or.inr (by rw [z]; omega)
    · exact Or.inl z)) ?_ hA tyc jr⟩
  obtain ⟨h1, h4, h5, h6, h7⟩ := fg
  exact ⟨h1, fun j j1 j2 => ⟨(h4 j j1 j2).1, fun q => (h4 j j1 j2).2.1 (fun p => q (p.nt tv.site)), fun q => (h4 j j1 j2).2.2 (fun p => q (p.nt (by rw [tv.v]; decide)))⟩, fun j j1 j2 => ⟨(h5 j j1 j2).1, (h5 j j1 j2).2.1, fun q => (h5 j j1 j2).2.2.1 (fun p => q (p.nt (by rw [tv.v]; decide))), (h5 j j1 j2).2.2.2⟩, fun j j1 j2 q => h6 j j1 j2 (fun p => q (p.nt tv.ty)), fun j j1 j2 => ⟨(h7 j j1 j2).1, (h7 j j1 j2).2.1, (h7 j j1 j2).2.2.1, fun q => (h7 j j1 j2).2.2.2 (fun p => q (p.nt tv.ty))⟩⟩
end
theorem ptl.mid (x : Int32) : ∀ (W1 W2 : List RVW), ∃ l1 l2 : List Int32, ptl (W1 ++ tv x :: W2) = l1 ++ x :: l2 ∧ ptl (W1 ++ W2) = l1 ++ l2
  | [], W2 => ⟨[], ptl W2, by
    show rtgs (tv x) ++ ptl W2 = _
    rw [tv.tgs]
    rfl, rfl⟩
  | r :: W1, W2 => by
    obtain ⟨l1, l2, h1, h2⟩ := ptl.mid x W1 W2
    refine ⟨rtgs r ++ l1, l2, ?_, ?_⟩
    · show rtgs r ++ ptl (W1 ++ tv x :: W2) = _
      rw [h1, List.append_assoc]
    · show rtgs r ++ ptl (W1 ++ W2) = _
      rw [h2, List.append_assoc]
theorem mem_mid {r : RVW} {x : Int32} {W1 W2 : List RVW} (h : r ∈ W1 ++ W2) : r ∈ W1 ++ tv x :: W2 := by
  rcases List.mem_append.mp h with h | h
  · exact List.mem_append_left _ h
  · exact List.mem_append_right _ (List.mem_cons_of_mem _ h)
theorem mem_mid' {r : RVW} {x : Int32} {W1 W2 : List RVW} (h : r ∈ W1 ++ tv x :: W2) : r ∈ W1 ++ W2 ∨ r = tv x := by
  rcases List.mem_append.mp h with h | h
  · exact Or.inl (List.mem_append_left _ h)
  · rcases List.mem_cons.mp h with h | h
    · exact Or.inr h
    · exact Or.inl (List.mem_append_right _ h)
/-- where the same waits, the same is known of the end -/
theorem FGP.st {V V' : List RVW} {col : Nat → Option (Nat × Bool)} {b s U : RS} (h : FGP V col b s U) (p1 : ∀ k : Nat, PEN V col k → PEN V' col k) (p2 : ∀ k : Nat, PCZ V k → PCZ V' k) (p3 : ∀ k : Nat, PTY V k → PTY V' k) (p4 : ∀ k : Nat, PCA V k → PCA V' k) (p5 : ∀ k : Nat, PCH V k → PCH V' k) : FGP V' col b s U := by
  obtain ⟨h1, h4, h5, h6, h7⟩ := h
  exact ⟨h1, fun j j1 j2 => ⟨(h4 j j1 j2).1, fun q => (h4 j j1 j2).2.1 (fun p => q (p1 j p)), fun q => (h4 j j1 j2).2.2 (fun p => q (p5 j p))⟩, fun j j1 j2 => ⟨(h5 j j1 j2).1, (h5 j j1 j2).2.1, fun q => (h5 j j1 j2).2.2.1 (fun p => q (p2 j p)), (h5 j j1 j2).2.2.2⟩, fun j j1 j2 q => h6 j j1 j2 (fun p => q (p3 j p)), fun j j1 j2 => ⟨(h7 j j1 j2).1, (h7 j j1 j2).2.1, (h7 j j1 j2).2.2.1, fun q => (h7 j j1 j2).2.2.2 (fun p => q (p4 j p))⟩⟩
section
variable {A : JBA} {U : RS} {B : CS} {b : RS} {V0 : List RVW} {s0 : RS} {W : List RVW} {K K' : JKT} {a e : Int} {S R : CS} {s u : RS}
/-- a target is aimed, and known to be -/
theorem JRG.aih {N : Nat} {x : Int32} {W1 W2 : List RVW} {R : Unit × CS} (h : JRG A U B b V0 s0 (W1 ++ tv x :: W2) K a e S s) (e1 : f_X0_aim N S x = some R) (h44 : (S.i 44).toInt ≤ 900) (he : e ≤ 100) (hK : ∀ (FC : Nat → Prop) (SF : CS) (nm : Nat → Nat → Prop) (X : Als) (ω : Nat) (j : JCT) (Z : Prop), (cTg SF x).toInt = ((pcC S : Nat) : Int) → K FC SF nm X ω j Z → K' FC SF nm X ω j Z) : JRG A U B b V0 s0 (hv x :: (W1 ++ W2)) K' a e R.2 s := by
  intro crB
  obtain ⟨b1, ⟨b2, n8⟩, b3, b4, Ψ, G, col, YJ, sax, ⟨pin, pin0⟩, tgi, jsi, main⟩ := h crB
  obtain ⟨⟨r0, r1⟩, r2, r3, r4, r5⟩ := crB.rms b1
  have b0 := crB.1.1.2.1
  have ea : (W1 ++ tv x :: W2) ++ V0 = W1 ++ tv x :: (W2 ++ V0) := by
    rw [List.append_assoc]
    rfl
  have eb : (W1 ++ W2) ++ V0 = W1 ++ (W2 ++ V0) := List.append_assoc _ _ _
  obtain ⟨l1, l2, q1, q2⟩ := ptl.mid x W1 (W2 ++ V0)
  obtain ⟨t1, t2⟩ := tgi
  rw [ea, q1] at t1 t2
  obtain ⟨x1, x2, x3⟩ := t2 x (List.mem_append_right _ List.mem_cons_self)
  obtain ⟨y1, y2, y3, y4, y5, y6, y7, y8⟩ := cd_aim e1 (by omega) (by omega)
  have ck := clampI (show 0 ≤ x.toInt by omega)
  have nx : ∀ z ∈ l1 ++ l2, ¬ z = x := fun z hz ez => by
    rw [ez] at hz
    have := List.nodup_append.mp t1
    rcases List.mem_append.mp hz with hz | hz
    · exact this.2.2 x hz x List.mem_cons_self rfl
    · exact (List.nodup_cons.mp this.2.1).1 hz
  have l23 : R.2.i 23 = S.i 23 := by
    unfold f_X0_aim at e1
    cases e1
    rfl
  have ng1 : ∀ (nm : Nat → Nat → Prop) (c : List Ent), NMH nm c S s → NMH nm c R.2 s := fun nm c z => by
    unfold f_X0_aim at e1
    cases e1
    exact z
  have pe1 : ∀ {k : Nat}, PEN (hv x :: ((W1 ++ W2) ++ V0)) col k → PEN ((W1 ++ tv x :: W2) ++ V0) col k := fun {k} p => by
    rw [ea]
    have p := p.nt hv.site
    rw [eb] at p
    rcases p with p | ⟨q, hq, p⟩
    · exact Or.inl p
    · exact Or.inr ⟨q, mem_mid hq, p⟩
  have pt : ∀ {P : RVW → Prop}, ¬ P (tv x) → ¬ P (hv x) → ((∃ r ∈ hv x :: ((W1 ++ W2) ++ V0), P r) ↔ ∃ r ∈ (W1 ++ tv x :: W2) ++ V0, P r) := fun {P} hP hQ => by
    rw [ea, eb]
    constructor
    · rintro ⟨r, hr, p⟩
      rcases List.mem_cons.mp hr with z | hr
      · rw [z] at p
        exact absurd p hQ
      · exact ⟨r, mem_mid hr, p⟩
    · rintro ⟨r, hr, p⟩
      rcases mem_mid' hr with hr | hr
      · exact ⟨r, List.mem_cons_of_mem _ hr, p⟩
      · rw [hr] at p
        exact absurd p hP
  have pz : ∀ k : Nat, PCZ (hv x :: ((W1 ++ W2) ++ V0)) k ↔ PCZ ((W1 ++ tv x :: W2) ++ V0) k := fun k => pt (fun p => absurd p.1 (by rw [tv.v]; decide)) (fun p => absurd p.1 (by rw [hv.v]; decide))
  have py : ∀ k : Nat, PTY (hv x :: ((W1 ++ W2) ++ V0)) k ↔ PTY ((W1 ++ tv x :: W2) ++ V0) k := fun k => pt (fun p => absurd p.1 tv.ty) (fun p => absurd p.1 hv.ty)
  have pa : ∀ k : Nat, PCA (hv x :: ((W1 ++ W2) ++ V0)) k ↔ PCA ((W1 ++ tv x :: W2) ++ V0) k := fun k => pt (fun p => absurd p.1 tv.ty) (fun p => absurd p.1 hv.ty)
  have x17 : R.2.a 17 x.toNatClampNeg = S.i 20 := by
    have z7 : gAt (R.2.a 17) 1024 x = S.i 20 := y3
    unfold gAt at z7
    rw [if_pos (show ib x 1024 from ⟨by omega, by omega⟩)] at z7
    exact z7
  have hds : HDS B ((hv x :: (W1 ++ W2)) ++ V0) R.2 := fun r hr z hz => by
    rcases List.mem_cons.mp hr with e9 | hr
    · rw [e9] at hz
      have ez : z = x := by
        rcases hz with ⟨hz, -⟩ | ⟨hz, -⟩ | ⟨-, hz⟩
        · rcases hz with hz | hz | hz <;> exact absurd hz (by rw [hv.v]; decide)
        · exact absurd hz (by rw [hv.v]; decide)
        · exact hz
      rw [ez]
      exact ⟨x1, by rw [y7]; exact x2, by rw [x17]; exact r0, by rw [x17, y6]; exact Int.le_refl _⟩
    · have hm : r ∈ (W1 ++ tv x :: W2) ++ V0 := by
        rw [ea]
        have hr2 : r ∈ (W1 ++ W2) ++ V0 := hr
        rw [eb] at hr2
        exact mem_mid hr2
      obtain ⟨h1, h2, h3, h4⟩ := jsi.2.2.1 r hm z hz
      have ckz := clampI (show 0 ≤ z.toInt by omega)
      have nz : ¬ ((z.toNatClampNeg : Nat) : Int) = x.toInt := fun w => by
        have e8 : z.toNatClampNeg = x.toNatClampNeg := by omega
        rw [e8, x3] at h3
        exact absurd h3 (by decide)
      rw [y2 _ nz, y7, y6]
      exact ⟨h1, h2, h3, h4⟩
  refine ⟨(b1.tr y1.k).wk (by omega) (by omega), ⟨b2.tr (fun k k1 k2 => y2 k (by omega)), n8.nk (NK.eq (by unfold f_X0_aim at e1; cases e1; rfl) (by unfold f_X0_aim at e1; cases e1; rfl) rfl rfl)⟩, b3, b4, Ψ, G, col, YJ, ?_, ⟨⟨fun k q => pin.1 k (pe1 q), fun k q => pin.2.1 k ((pz k).mp q), fun k q => pin.2.2.1 k ((py k).mp q), fun k q => pin.2.2.2 k ((pa k).mp q)⟩, pin0⟩, ?_, ⟨jsi.1.mv ((hv.rj x (W1 ++ W2)).trans (tv.rm W1 W2).symm) (fun r hr => (List.mem_cons.mp hr).elim (fun z => Or.inr (fun k q => by rw [z] at q; exact absurd q hv.site)) (fun z => Or.inl (mem_mid z))) b4 (KD2.rf _ _) (fun _ _ q => q), (jsi.2.1.tr y1.k).wk (by omega) (by omega), hds, jsi.2.2.2.kd y1.k (KD2.rf _ _)⟩, ?_⟩
  · intro sl
    obtain ⟨u1, F, M, ⟨u2, u2'⟩, u3⟩ := sax sl
    exact ⟨⟨u1.1, fun k p => u1.2 k ((pa k).mp p)⟩, F, M, ⟨fun k l z => by have := u2 k l z; rw [l23]; omega, u2'⟩, fun FC nm q => u3 FC nm ⟨fun y y1 y2 y3 => q.1 y y1 y2 (fun p => y3 ((py y).mp p)), fun k l z => q.2 k l (by rw [l23]; omega)⟩⟩
  · unfold TGI
    rw [show (hv x :: (W1 ++ W2)) ++ V0 = hv x :: ((W1 ++ W2) ++ V0) from rfl, show ptl (hv x :: ((W1 ++ W2) ++ V0)) = ptl ((W1 ++ W2) ++ V0) from (by show rtgs (hv x) ++ ptl ((W1 ++ W2) ++ V0) = _; rw [hv.tgs]; rfl), eb, q2]
    refine ⟨?_, fun z hz => ?_⟩
    · have z0 := List.nodup_append.mp t1
      exact List.nodup_append.mpr ⟨z0.1, (List.nodup_cons.mp z0.2.1).2, fun i hi k hk => z0.2.2 i hi k (List.mem_cons_of_mem _ hk)⟩
    · have hm : z ∈ l1 ++ x :: l2 := by
        rcases List.mem_append.mp hz with h | h
        · exact List.mem_append_left _ h
        · exact List.mem_append_right _ (List.mem_cons_of_mem _ h)
      obtain ⟨k1, k2, k3⟩ := t2 z hm
      have ckz := clampI (show 0 ≤ z.toInt by omega)
      refine ⟨k1, by rw [y7]; exact k2, (y2 _ (fun w => nx z hz (Int32.toInt_inj.mp (by omega)))).trans k3⟩
  intro FC SF nm X h0 ω c0 psi ng0 hc0 hh0 hω
  obtain ⟨⟨ng, hc, hh, wn⟩, mn⟩ := main FC SF nm X h0 ω c0 psi ng0 hc0 hh0 hω
  refine ⟨⟨⟨ng1 nm _ ng.1, ng.2⟩, hc, hh, wn.mv (by rw [l23]; exact Int.le_refl _) (fun r hr hv9 => (List.mem_cons.mp hr).elim (fun z => by rw [z] at hv9; exact absurd hv9 (WGD.no (by rw [hv.v]; decide) rfl)) (fun z => mem_mid z))⟩, fun fc fg hA tyc jr => hK FC SF nm X ω _ _ ?_ (mn ?_ (fg.st (fun k q => pe1 q) (fun k q => (pz k).mp q) (fun k q => (py k).mp q) (fun k q => (pa k).mp q) (fun k q => (pt (P := fun r => (r.v = 218 ∨ r.v = 995) ∧ (k : Int) = (r.2.1 66).toInt) (fun p => absurd p.1 (by rw [tv.v]; decide)) (fun p => absurd p.1 (by rw [hv.v]; decide))).mp q)) hA tyc jr)⟩
  · have z7 : gAt (R.2.a 17) 1024 x = S.i 20 := y3
    unfold gAt at z7
    rw [if_pos (show ib x 1024 from ⟨by omega, by omega⟩)] at z7
    have z8 : R.2.a 17 x.toNatClampNeg = S.i 20 := z7
    have sf := fc.2.2 x.toNatClampNeg (by omega) (by rw [y7]; omega) (Or.inl (by rw [z8]; exact r0))
    unfold cTg gAt
    rw [if_pos (show ib x 1024 from ⟨by omega, by omega⟩)]
    show (SF.a 17 x.toNatClampNeg).toInt = _
    rw [sf, z8]
    exact (Int.toNat_of_nonneg r0).symm
  · obtain ⟨⟨g1, g2⟩, g3, g4⟩ := fc
    refine ⟨⟨g1, by rw [y6] at g2; exact g2⟩, fun i i1 i2 => ?_, fun k k1 k2 k3 => ?_⟩
    · have z := g3 i i1 (by rw [y6]; exact i2)
      rw [y4, y5] at z
      exact z
    · have nk : ¬ (k : Int) = x.toInt := fun w => by
        have e9 : k = x.toNatClampNeg := by omega
        rcases k3 with k3 | k3
        · rw [e9, x3] at k3
          exact absurd k3 (by decide)
        · refine k3.2 x ?_ w.symm
          rw [ea, q1]
          exact List.mem_append_right _ List.mem_cons_self
      rw [← y2 k nk] at k3 ⊢
      refine g4 k k1 (by rw [y7]; exact k2) (k3.elim Or.inl (fun q => Or.inr ⟨by rw [y7]; exact q.1, fun y hy => q.2 y ?_⟩))
      have hy2 : y ∈ ptl ((W1 ++ W2) ++ V0) := by
        have e5 : ptl ((hv x :: (W1 ++ W2)) ++ V0) = ptl ((W1 ++ W2) ++ V0) := by
          show rtgs (hv x) ++ ptl ((W1 ++ W2) ++ V0) = _
          rw [hv.tgs]
          rfl
        rw [e5] at hy
        exact hy
      rw [eb, q2] at hy2
      rw [ea, q1]
      rcases List.mem_append.mp hy2 with h | h
      · exact List.mem_append_left _ h
      · exact List.mem_append_right _ (List.mem_cons_of_mem _ h)
/-- a head that is aimed is forgotten -/
theorem JRG.dhv {x : Int32} (h : JRG A U B b V0 s0 (hv x :: W) K a e S s) : JRG A U B b V0 s0 W K a e S s := by
  intro crB
  obtain ⟨b1, ⟨b2, n8⟩, b3, b4, Ψ, G, col, YJ, sax, ⟨pin, pin0⟩, tgi, jsi, main⟩ := h crB
  have tg : ptl ((hv x :: W) ++ V0) = ptl (W ++ V0) := by
    show rtgs (hv x) ++ ptl (W ++ V0) = _
    rw [hv.tgs]
    rfl
  have pc : ∀ {k : Nat}, PEN (W ++ V0) col k → PEN ((hv x :: W) ++ V0) col k := fun {k} p => by
    rcases p with p | ⟨q, hq, p⟩
    · exact Or.inl p
    · exact Or.inr ⟨q, List.mem_cons_of_mem _ hq, p⟩
  refine ⟨b1, ⟨b2, n8⟩, b3, b4, Ψ, G, col, YJ, SAX.mo (fun k ⟨q, hq, p⟩ => ⟨q, List.mem_cons_of_mem _ hq, p⟩) (fun k ⟨q, hq, p⟩ => ⟨q, List.mem_cons_of_mem _ hq, p⟩) sax, ⟨⟨fun k q => pin.1 k (pc q), fun k ⟨q, hq, p⟩ => pin.2.1 k ⟨q, List.mem_cons_of_mem _ hq, p⟩, fun k ⟨q, hq, p⟩ => pin.2.2.1 k ⟨q, List.mem_cons_of_mem _ hq, p⟩, fun k ⟨q, hq, p⟩ => pin.2.2.2 k ⟨q, List.mem_cons_of_mem _ hq, p⟩⟩, pin0⟩, ?_, ⟨jsi.1.mv (hv.rj x W).symm (fun r hr => Or.inl (List.mem_cons_of_mem _ hr)) b4 (KD2.rf _ _) (fun _ _ q => q), jsi.2.1, fun r hr => jsi.2.2.1 r (List.mem_cons_of_mem _ hr), jsi.2.2.2⟩, ?_⟩
  · unfold TGI at tgi ⊢
    rw [tg] at tgi
    exact tgi
  intro FC SF nm X h0 ω c0 psi ng0 hc0 hh0 hω
  obtain ⟨⟨ng, hc, hh, wn⟩, mn⟩ := main FC SF nm X h0 ω c0 psi ng0 hc0 hh0 hω
  exact ⟨⟨ng, hc, hh, wn.mv (Int.le_refl _) (fun r hr _ => List.mem_cons_of_mem _ hr)⟩, fun fc fg hA tyc jr => mn (fc.pl (fun y hy => by rw [tg]; exact hy)) (fg.st (fun k q => pc q) (fun k ⟨q, hq, p⟩ => ⟨q, List.mem_cons_of_mem _ hq, p⟩) (fun k ⟨q, hq, p⟩ => ⟨q, List.mem_cons_of_mem _ hq, p⟩) (fun k ⟨q, hq, p⟩ => ⟨q, List.mem_cons_of_mem _ hq, p⟩) (fun k ⟨q, hq, p⟩ => ⟨q, List.mem_cons_of_mem _ hq, p⟩)) hA tyc jr⟩
/-- a target is aimed -/
theorem JRG.aim {N : Nat} {x : Int32} {W1 W2 : List RVW} {R : Unit × CS} (h : JRG A U B b V0 s0 (W1 ++ tv x :: W2) K a e S s) (e1 : f_X0_aim N S x = some R) (h44 : (S.i 44).toInt ≤ 900) (he : e ≤ 100) (hK : ∀ (FC : Nat → Prop) (SF : CS) (nm : Nat → Nat → Prop) (X : Als) (ω : Nat) (j : JCT) (Z : Prop), (cTg SF x).toInt = ((pcC S : Nat) : Int) → K FC SF nm X ω j Z → K' FC SF nm X ω j Z) : JRG A U B b V0 s0 (W1 ++ W2) K' a e R.2 s := (h.aih e1 h44 he hK).dhv
/-- a statement begins -/
theorem JRW.go (h : JRW A U B b V0 S s) (h1 : e = 1 ∨ (e = 0 ∧ ALN (S.i 43))) : JRG A U B b V0 s [] (fun FC SF nm X ω j Z => GU2 FC SF U nm X (pcC S) (pcR s) j.h (ω + j.l - pcC S) j.c → Z) 0 e S s := by
  intro crB
  obtain ⟨⟨eB, hB1, b1⟩, ⟨b2, n8⟩, b3, Ψ, G, col, YJ, sax, pin, tgi, ⟨jsi, ⟨eD, hD1, bD⟩, hds⟩, main⟩ := h crB
  have leD : eD ≤ e := by
    rcases hD1 with z | ⟨z, z'⟩ <;> rcases h1 with q | ⟨q, q'⟩
    · omega
    · omega
    · omega
    · exact absurd q' z'
  have le : eB ≤ e := by
    rcases hB1 with z | ⟨z, z'⟩ <;> rcases h1 with q | ⟨q, q'⟩
    · omega
    · omega
    · omega
    · exact absurd q' z'
  refine ⟨b1.wk (Int.le_refl _) le, ⟨b2, n8⟩, b3, KDC.rf _, Ψ, G, col, YJ, sax, ⟨pin, pin⟩, tgi, ⟨⟨jsi, ⟨jsi.2.2.1, jsi.2.2.2, fun w hw => absurd hw List.not_mem_nil⟩, fun _ _ => rfl, fun _ _ _ => rfl⟩, bD.wk (by omega) leD, hds⟩, ?_⟩
  intro FC SF nm X h0 ω c0 psi ng0 hc0 hh0 hω
  obtain ⟨ng, mn⟩ := main FC SF nm X h0 ω c0 psi ng0 hc0 hh0 hω
  exact ⟨⟨⟨ng.1.h, ng.1.2.2.2.1⟩, ng.2.1, ng.2.2.1, fun r hr => absurd hr List.not_mem_nil, ng.2.2.2⟩, fun fc fg hA tyc jr cu => mn fc fg hA tyc jr (fun _ => cu)⟩
/-- a statement ends, or a row: no row more -/
theorem JRG.fiw (h : JRG A U B b V0 s0 [] K a e R u) (la : a ≤ 0) (le : e ≤ 0 ∨ (e ≤ 1 ∧ ¬ ALN (R.i 43))) (gk : (∀ r ∈ V0, isGo r.v → ((r.2.2.2 : Nat) : Int) < (s0.i 43).toInt) → GKV V0 s0 u) (l11 : (s0.i 11).toInt ≤ (u.i 11).toInt) (l19 : (s0.i 19).toInt ≤ (u.i 19).toInt) (hK : ∀ (FC : Nat → Prop) (SF : CS) (nm : Nat → Nat → Prop) (X : Als) (G : GHT) (h0 : Nat) (c0 : List Ent) (ω : Nat) (Z : Prop), 1300 ≤ ω → pcC R ≤ 1200 → A FC SF nm X h0 ω c0 → NMG nm (JCX G ω h0 c0 V0).c R u → HC0 nm (JCX G ω h0 c0 V0).h (JCX G ω h0 c0 V0).c → K FC SF nm X ω (JCX G ω h0 c0 V0) Z → (R.i 36 = 1 → GU2 FC SF U nm X (pcC R) (pcR u) (JCX G ω h0 c0 V0).h (ω + (JCX G ω h0 c0 V0).l - pcC R) (JCX G ω h0 c0 V0).c) → Z) : JRW A U B b V0 R u := by
  intro crB
  obtain ⟨b1, ⟨b2, n8⟩, b3, b4, Ψ, G, col, YJ, sax, ⟨pin, pin0⟩, tgi, ⟨jsi, bD, hds⟩, main⟩ := h crB
  have hD : ∃ e : Int, (e = 0 ∨ (e = 1 ∧ ¬ ALN (R.i 43))) ∧ KD1 (-(DB G V0)) e B R := by
    rcases le with z | ⟨z, z'⟩
    · exact ⟨0, Or.inl rfl, bD.wk (by omega) z⟩
    · exact ⟨1, Or.inr ⟨rfl, z'⟩, bD.wk (by omega) z⟩
  refine ⟨?_, ⟨b2, n8⟩, b3, Ψ, G, col, YJ, sax, pin, tgi, ⟨jsi.1.mw (gk (fun r hr go => (jsi.1.1 r hr go).1)) b4.1.1 b4.1.2.2.1 jsi.2.2.1 (fun w w1 _ => jsi.2.2.2 w w1 (fun ⟨r, hr, _⟩ => absurd hr List.not_mem_nil)) (fun _ _ q => q), hD, hds⟩, ?_⟩
  · rcases le with z | ⟨z, z'⟩
    · exact ⟨0, Or.inl rfl, b1.wk la z⟩
    · exact ⟨1, Or.inr ⟨rfl, z'⟩, b1.wk la z⟩
  intro FC SF nm X h0 ω c0 psi ng0 hc0 hh0 hω
  obtain ⟨⟨ng, hc, hh, wn⟩, mn⟩ := main FC SF nm X h0 ω c0 psi ng0 hc0 hh0 hω
  have ng' := ng.1.g (Int.le_trans ng.2 l19)
  refine ⟨⟨ng', hc, Int.le_trans hh l11, wn.2.mv V0 (fun r hr go => ((gk (fun r hr go => (jsi.1.1 r hr go).1)).1 r hr go).2.2.2.2.2) l11⟩, fun fc fg hA tyc jr cur => hK FC SF nm X G h0 c0 ω _ hω ?_ hA ng' hc (mn fc fg hA tyc jr) cur⟩
  have := fc.1.2
  unfold pcC
  omega
/-- a statement ends: no row more -/
theorem JRG.fin (h : JRG A U B b V0 s0 [] K a e R u) (la : a ≤ 0) (le : e ≤ 0 ∨ (e ≤ 1 ∧ ¬ ALN (R.i 43))) (gk : GKP s0 u) (l11 : (s0.i 11).toInt ≤ (u.i 11).toInt) (l19 : (s0.i 19).toInt ≤ (u.i 19).toInt) (hK : ∀ (FC : Nat → Prop) (SF : CS) (nm : Nat → Nat → Prop) (X : Als) (G : GHT) (h0 : Nat) (c0 : List Ent) (ω : Nat) (Z : Prop), 1300 ≤ ω → pcC R ≤ 1200 → A FC SF nm X h0 ω c0 → NMG nm (JCX G ω h0 c0 V0).c R u → HC0 nm (JCX G ω h0 c0 V0).h (JCX G ω h0 c0 V0).c → K FC SF nm X ω (JCX G ω h0 c0 V0) Z → (R.i 36 = 1 → GU2 FC SF U nm X (pcC R) (pcR u) (JCX G ω h0 c0 V0).h (ω + (JCX G ω h0 c0 V0).l - pcC R) (JCX G ω h0 c0 V0).c) → Z) : JRW A U B b V0 R u := h.fiw la le (fun z => gk.v z) l11 l19 hK
end
/-- a ghost of a row more -/
def GHT.set (G : GHT) (n : Nat) (v : Nat × Nat × List (Int32 × Nat)) : GHT := fun k => if k = n then v else G k
theorem GHT.at {G : GHT} {n : Nat} {v : Nat × Nat × List (Int32 × Nat)} : G.set n v n = v := if_pos rfl
theorem GHT.ne {G : GHT} {n k : Nat} {v : Nat × Nat × List (Int32 × Nat)} (h : ¬ k = n) : G.set n v k = G k := if_neg h
theorem jen.gs {G : GHT} {ω : Nat} {r : RVW} {h l n : Nat} {v : Nat × Nat × List (Int32 × Nat)} (hr : ¬ r.2.2.1 = n) : jen (G.set n v) ω r h l = jen G ω r h l := by
  unfold jen
  rw [GHT.ne hr]
theorem JCX.gs {G : GHT} {ω h0 : Nat} {c0 : List Ent} {n : Nat} {v : Nat × Nat × List (Int32 × Nat)} : ∀ (V : List RVW), (∀ r ∈ V, ¬ r.2.2.1 = n) → JCX (G.set n v) ω h0 c0 V = JCX G ω h0 c0 V
  | [], _ => rfl
  | r :: V, h => by
    have ih := JCX.gs (G := G) (ω := ω) (h0 := h0) (c0 := c0) (v := v) V (fun q hq => h q (List.mem_cons_of_mem _ hq))
    show ((JCX (G.set n v) ω h0 c0 V).h, (JCX (G.set n v) ω h0 c0 V).l + jlv r.v, jty r.v ((JCX (G.set n v) ω h0 c0 V).l + jlv r.v) (JCX (G.set n v) ω h0 c0 V).t, jen (G.set n v) ω r (JCX (G.set n v) ω h0 c0 V).h (JCX (G.set n v) ω h0 c0 V).l ++ (JCX (G.set n v) ω h0 c0 V).c) = _
    rw [ih, jen.gs (h r List.mem_cons_self)]
    rfl
theorem DPM.gs {G : GHT} {f l : Nat} {s : RS} {n : Nat} {v : Nat × Nat × List (Int32 × Nat)} : ∀ (V : List RVW), (∀ r ∈ V, ¬ r.2.2.1 = n) → (DPM (G.set n v) f l s V ↔ DPM G f l s V)
  | [], _ => Iff.rfl
  | r :: V, h => by
    have ih := DPM.gs (G := G) (f := f) (l := l) (s := s) (v := v) V (fun q hq => h q (List.mem_cons_of_mem _ hq))
    show (_ ∧ _ ∧ _ ∧ (r.v = 215 → 3 * (((G.set n v) r.2.2.1).2.2.length : Int) + 3 ≤ (s.i 11).toInt ∧ NB4 ((G.set n v) r.2.2.1).2.1 r)) ∧ DPM (G.set n v) f l s V ↔ _
    rw [GHT.ne (h r List.mem_cons_self), ih]
    exact Iff.rfl
theorem DB.gs {G : GHT} {n : Nat} {v : Nat × Nat × List (Int32 × Nat)} : ∀ (V : List RVW), (∀ r ∈ V, ¬ r.2.2.1 = n) → DB (G.set n v) V = DB G V
  | [], _ => rfl
  | r :: V, h => by
    show DB (G.set n v) V + dbr (G.set n v r.2.2.1) r.v = DB G V + dbr (G r.2.2.1) r.v
    rw [DB.gs V (fun q hq => h q (List.mem_cons_of_mem _ hq)), GHT.ne (h r List.mem_cons_self)]
section
variable {FC : Nat → Prop} {SF : CS} {U : RS} {nm : Nat → Nat → Prop} {X : Als} {G : GHT} {col : Nat → Option (Nat × Bool)} {YJ : Nat → List Nat} {ω h0 : Nat} {c0 : List Ent} {n : Nat} {v : Nat × Nat × List (Int32 × Nat)}
theorem JRH.gs {r : RVW} {j : JCT} (hr : ¬ r.2.2.1 = n) : JRH FC SF U nm X (G.set n v) col YJ ω r j = JRH FC SF U nm X G col YJ ω r j := by
  unfold JRH TRH HRB SWH JGL jcn jbk
  simp only [jen.gs hr, GHT.ne hr]
theorem JHH.gs {r : RVW} {j : JCT} (hr : ¬ r.2.2.1 = n) : JHH FC SF U nm X (G.set n v) ω r j = JHH FC SF U nm X G ω r j := by
  unfold JHH SWE SWF
  simp only [jen.gs hr, GHT.ne hr]
theorem JRS.gs : ∀ (V : List RVW), (∀ r ∈ V, ¬ r.2.2.1 = n) → JRS FC SF U nm X (G.set n v) col YJ ω h0 c0 V = JRS FC SF U nm X G col YJ ω h0 c0 V
  | [], _ => rfl
  | r :: V, h => by
    have hV : ∀ q ∈ V, ¬ q.2.2.1 = n := fun q hq => h q (List.mem_cons_of_mem _ hq)
    show (JRH FC SF U nm X (G.set n v) col YJ ω r (JCX (G.set n v) ω h0 c0 V) ∧ JRS FC SF U nm X (G.set n v) col YJ ω h0 c0 V) = _
    rw [JRS.gs V hV, JCX.gs V hV, JRH.gs (h r List.mem_cons_self)]
    rfl
theorem JHS.gs : ∀ (V : List RVW), (∀ r ∈ V, ¬ r.2.2.1 = n) → JHS FC SF U nm X (G.set n v) ω h0 c0 V = JHS FC SF U nm X G ω h0 c0 V
  | [], _ => rfl
  | r :: V, h => by
    have hV : ∀ q ∈ V, ¬ q.2.2.1 = n := fun q hq => h q (List.mem_cons_of_mem _ hq)
    show (JHH FC SF U nm X (G.set n v) ω r (JCX (G.set n v) ω h0 c0 V) ∧ JHS FC SF U nm X (G.set n v) ω h0 c0 V) = _
    rw [JHS.gs V hV, JCX.gs V hV, JHH.gs (h r List.mem_cons_self)]
    rfl
end
theorem JSI.psh {Ψ : GPS} {V : List RVW} {r : RVW} {col : Nat → Option (Nat × Bool)} {YJ : Nat → List Nat} {b s u : RS} (h : JSI Ψ V col YJ b s) (gk : GKV V s u) (y20 : (s.i 20).toInt ≤ (u.i 20).toInt) (y29 : (s.i 29).toInt ≤ (u.i 29).toInt) (a22 : ∀ j : Nat, ¬ col j = none → u.a 22 j = s.a 22 j) (a31 : ∀ y : Nat, (y : Int) < (s.i 29).toInt → ¬ PTY V y → u.a 31 y = s.a 31 y) (nc : NCL (r :: V) col) (pl : ∀ q ∈ V, q.2.2.1 < r.2.2.1) (ty : isTyv r → (s.i 29).toInt ≤ (r.2.1 66).toInt) (gl : isGo r.v → (s.i 43).toInt ≤ ((r.2.2.2 : Nat) : Int) ∧ ((r.2.2.2 : Nat) : Int) < (u.i 43).toInt ∧ (u.a 48 r.2.2.2).toInt < 0 ∧ (u.a 49 r.2.2.2).toInt < 0) : JSI Ψ (r :: V) col YJ b u := by
  have h0 := h
  obtain ⟨h1, h2, -⟩ := h.mw gk y20 y29 a22 a31 (fun _ _ q => q)
  refine ⟨fun q hq go => ?_, fun j g k hc => ?_, nc⟩
  · rcases List.mem_cons.mp hq with e | hq
    · rw [e] at go ⊢
      obtain ⟨g1, g2, g3, g4⟩ := gl go
      have no : ∀ (j : Nat) (k : Bool), ¬ col j = some (r.2.2.2, k) := fun j k hc => by
        obtain ⟨-, q, hq, qo, qe, -⟩ := h0.2.1 j _ _ hc
        have z := (h0.1 q hq qo.1).1
        rw [qe] at z
        omega
      exact ⟨g2, [], [], g3, g4, fun j => ⟨⟨fun w => absurd w (no j _), fun w => absurd w List.not_mem_nil⟩, ⟨fun w => absurd w (no j _), fun w => absurd w List.not_mem_nil⟩⟩⟩
    · exact h1 q hq go
  · have z1 := (h2 j g k hc).1
    obtain ⟨-, q, hq, qo, qe, z2⟩ := h0.2.1 j g k hc
    refine ⟨z1, q, List.mem_cons_of_mem _ hq, qo, qe, ?_⟩
    obtain ⟨-, e50, e51, -, -, -⟩ := gk.1 q hq qo.1
    rw [qe] at e50 e51
    rcases z2 with z2 | ⟨i, i1, i2, i3, r', hr', i4, i5, i6, i7, i8⟩ | ⟨y0, hy0, y1, y2, y3, y4⟩
    · refine Or.inl ?_
      unfold jfl at z2 ⊢
      rw [e50, e51]
      exact z2
    · obtain ⟨e1, e2, e3⟩ := gk.2.2 i i1
      have l59 := gk.2.1
      refine Or.inr (Or.inl ⟨i, by omega, by rw [e1]; exact i2, by rw [e2]; exact i3, r', List.mem_cons_of_mem _ hr', i4, i5, by rw [e3]; exact i6, i7, fun r2 hr2 w1 w2 w3 => ?_⟩)
      rcases List.mem_cons.mp hr2 with e | hr2
      · rw [e] at w3
        have := pl r' hr'
        omega
      · exact i8 r2 hr2 w1 w2 w3
    · refine Or.inr (Or.inr ⟨y0, hy0, ⟨y1.1, by omega⟩, fun p => ?_, by rw [a31 y0 y1.2 y2]; exact y3, y4⟩)
      obtain ⟨q9, hq9, p1, p2⟩ := p
      rcases List.mem_cons.mp hq9 with e | hq9
      · rw [e] at p1 p2
        have := ty p1
        omega
      · exact y2 ⟨q9, hq9, p1, p2⟩
section
variable {A : JBA} {U : RS} {B : CS} {b : RS} {V0 : List RVW} {s0 : RS} {W : List RVW} {K K' : JKT} {a e : Int} {R : CS} {u : RS} {r : RVW}
/-- the same but for the depth -/
def D38 (S R : CS) : Prop := (R.i 20 = S.i 20 ∧ R.i 21 = S.i 21 ∧ R.i 22 = S.i 22 ∧ R.i 23 = S.i 23 ∧ R.i 44 = S.i 44) ∧ R.a 15 = S.a 15 ∧ R.a 16 = S.a 16 ∧ R.a 17 = S.a 17 ∧ R.a 19 = S.a 19
def D52 (s u : RS) : Prop := (u.i 20 = s.i 20 ∧ u.i 24 = s.i 24 ∧ u.i 29 = s.i 29 ∧ u.i 33 = s.i 33 ∧ u.i 42 = s.i 42) ∧ u.a 21 = s.a 21 ∧ u.a 22 = s.a 22 ∧ u.a 23 = s.a 23 ∧ u.a 25 = s.a 25 ∧ u.a 26 = s.a 26 ∧ u.a 27 = s.a 27 ∧ u.a 28 = s.a 28 ∧ u.a 30 = s.a 30 ∧ u.a 31 = s.a 31 ∧ u.a 32 = s.a 32 ∧ u.a 34 = s.a 34 ∧ u.a 35 = s.a 35 ∧ u.a 36 = s.a 36 ∧ u.a 37 = s.a 37
theorem KD1.d {a e : Int} {B S R : CS} (h : KD1 a e B S) (d : D38 S R) : KD1 a e B R := by
  obtain ⟨⟨i20, i21, i22, i23, i44⟩, a15, a16, a17, a19⟩ := d
  unfold KD1 at h ⊢
  rw [i20, i21, i22, i23, i44, a15, a16, a19]
  exact h
theorem KD2.d {c : Int} {b s u : RS} (h : KD2 c b s) (d : D52 s u) : KD2 c b u := by
  obtain ⟨⟨i20, i24, i29, i33, i42⟩, a21, a22, a23, a25, a26, a27, a28, a30, a31, a32, a34, a35, a36, a37⟩ := d
  unfold KD2 SLC SLO at h ⊢
  rw [i20, i24, i29, i33, i42, a21, a22, a23, a25, a26, a27, a28, a30, a31, a32, a34, a35, a36, a37]
  exact h
theorem KDC.d {b s u : RS} (h : KDC b s) (d : D52 s u) : KDC b u := by
  obtain ⟨⟨i20, i24, i29, i33, i42⟩, -⟩ := d
  unfold KDC SLC SLO at h ⊢
  rw [i20, i24, i29, i33, i42]
  exact h
theorem SAX.d {V : List RVW} {Ψ : GPS} {B S R : CS} {b s u : RS} (h : SAX V Ψ B b S s) (d : D38 S R) (d' : D52 s u) : SAX V Ψ B b R u := by
  unfold SAX GHM SLO at h ⊢
  rw [d.1.2.2.2.1, d'.1.2.2.2.2, d'.1.1, d'.1.2.2.1]
  exact h
theorem PIN.d {V : List RVW} {col : Nat → Option (Nat × Bool)} {s u : RS} (h : PIN V col s) (d : D52 s u) : PIN V col u := by
  unfold PIN at h ⊢
  rw [d.1.1, d.1.2.1, d.1.2.2.1, d.1.2.2.2.1]
  exact h
theorem TGI.d {B S R : CS} {V : List RVW} (h : TGI B V S) (d : D38 S R) : TGI B V R := by
  unfold TGI at h ⊢
  rw [d.2.2.2.1, d.1.2.1]
  exact h
theorem FGD.d {V : List RVW} {B S R SF : CS} (h : FGD V B R SF) (d : D38 S R) : FGD V B S SF := by
  unfold FGD at h ⊢
  rw [d.2.1, d.2.2.1, d.2.2.2.1, d.1.1, d.1.2.1] at h
  exact h
theorem FGP.d {V : List RVW} {col : Nat → Option (Nat × Bool)} {b s u U : RS} (h : FGP V col b u U) (d : D52 s u) : FGP V col b s U := by
  obtain ⟨⟨i20, i24, i29, i33, i42⟩, a21, a22, a23, a25, a26, a27, a28, a30, a31, a32, a34, a35, a36, a37⟩ := d
  unfold FGP at h ⊢
  rw [i20, i24, i29, i33, a21, a22, a23, a25, a26, a27, a28, a30, a31, a32, a34, a35, a36, a37] at h
  exact h
theorem D38.of {S R : CS} (h : pe R = pe S) (h21 : R.i 21 = S.i 21) (h44 : R.i 44 = S.i 44) : D38 S R := by
  obtain ⟨e20, e15, e16, e17, e23, e38, e22, e19⟩ := pe_eq h
  exact ⟨⟨e20, h21, e22, e23, h44⟩, e15, e16, e17, e19⟩
theorem D52.of {s u : RS} (h : qe u = qe s) : D52 s u := by
  obtain ⟨⟨i1, i2, i3, i4, i5, -⟩, r⟩ := qe_eq h
  exact ⟨⟨i1, i2, i3, i4, i5⟩, r⟩
theorem D52.tr {s u v : RS} (h : D52 s u) (g : D52 u v) : D52 s v := by
  obtain ⟨⟨i20, i24, i29, i33, i42⟩, a21, a22, a23, a25, a26, a27, a28, a30, a31, a32, a34, a35, a36, a37⟩ := h
  obtain ⟨⟨j20, j24, j29, j33, j42⟩, b21, b22, b23, b25, b26, b27, b28, b30, b31, b32, b34, b35, b36, b37⟩ := g
  exact ⟨⟨j20.trans i20, j24.trans i24, j29.trans i29, j33.trans i33, j42.trans i42⟩, b21.trans a21, b22.trans a22, b23.trans a23, b25.trans a25, b26.trans a26, b27.trans a27, b28.trans a28, b30.trans a30, b31.trans a31, b32.trans a32, b34.trans a34, b35.trans a35, b36.trans a36, b37.trans a37⟩
theorem SWT.d {β : Int} {G : GHT} {V : List RVW} {S R : CS} {s u : RS} (h : SWT β G V S s) (d : D38 S R) (d' : D52 s u) : SWT β G V R u := ⟨h.1.mv (by rw [d.1.1]; exact Int.le_refl _) (by rw [d.1.2.2.1]; exact Int.le_refl _) (fun k _ => by rw [d.2.2.2.2]) (by rw [d'.1.2.1]; exact Int.le_refl _) (fun j _ => by
  rw [d'.2.2.2.2.1, d'.2.2.2.2.2.1, d'.2.2.2.2.2.2.1, d'.2.2.2.2.2.2.2.1]
  exact ⟨rfl, rfl, rfl, rfl⟩) (fun _ _ _ => by rw [d'.2.2.1]) (fun _ _ _ => by rw [d'.2.2.2.2.2.2.2.2.2.1]) (fun _ _ _ => by rw [d'.2.2.2.2.2.2.2.2.1]), h.2.mv (by rw [d'.1.1]; exact Int.le_refl _) (by rw [d'.1.2.2.1]; exact Int.le_refl _)⟩
theorem D38.rf (S : CS) : D38 S S := ⟨⟨rfl, rfl, rfl, rfl, rfl⟩, rfl, rfl, rfl, rfl⟩
theorem D52.rf (s : RS) : D52 s s := ⟨⟨rfl, rfl, rfl, rfl, rfl⟩, rfl, rfl, rfl, rfl, rfl, rfl, rfl, rfl, rfl, rfl, rfl, rfl, rfl, rfl⟩
/-- a statement opens a row -/
theorem JRG.psd {R0 : CS} {u0 : RS} (gv : Nat × Nat × List (Int32 × Nat)) (n8' : N8 B b V0 R0 u0 → N8 B b (r :: V0) R u) (dR : D38 R0 R) (du : D52 u0 u) (h : JRG A U B b V0 s0 W K a e R0 u0) (la : a ≤ 0 ∧ (r.v = 205 ∨ r.v = 207 ∨ r.v = 304 ∨ r.v = 213 ∨ r.v = 218 → a ≤ -1) ∧ ((r.v = 205 ∨ r.v = 207 ∨ r.v = 304 ∨ r.v = 204 → hv (r.1 10) ∈ W) ∧ (r.v = 206 → hv (r.1 11) ∈ W) ∧ ¬ r.v = 994) ∧ (r.v = 218 → a ≤ -2 ∧ gv.2.2 = []) ∧ ¬ r.v = 215 ∧ ¬ r.v = 305) (le : e ≤ 0 ∨ (e ≤ 1 ∧ ¬ ALN (R.i 43))) (gk : GKP s0 u) (l19 : (s0.i 19).toInt ≤ (u.i 19).toInt) (pl : ∀ q ∈ V0, q.2.2.1 < r.2.2.1) (nt : isTyv r → (s0.i 29).toInt ≤ (r.2.1 66).toInt ∧ (r.2.1 72).toInt < 0 ∧ ∃ w ∈ W, isTyv w ∧ w.2.1 66 = r.2.1 66) (n218 : r.v = 218 → (r.2.1 67).toInt < 0 ∧ sv5 (r.2.1 66) ∈ W) (n995 : ¬ r.v = 995) (site : ∀ k : Nat, rsite r k → ∃ w ∈ W, rsite w k) (tg : (rtgs r).Perm (ptl W)) (gl : isGo r.v → (s0.i 43).toInt ≤ ((r.2.2.2 : Nat) : Int) ∧ ((r.2.2.2 : Nat) : Int) < (u.i 43).toInt ∧ (u.a 48 r.2.2.2).toInt < 0 ∧ (u.a 49 r.2.2.2).toInt < 0 ∧ r.1 2 = R0.i 38 ∧ (dln r.v = 0 → u.a 47 r.2.2.2 = u0.i 52) ∧ (dln r.v = 1 → u.a 47 r.2.2.2 = u0.i 52 + 1) ∧ NT5 (r.1 9) ∧ (isLo r.v → NT5 (r.1 10)) ∧ RHP r.v r.2.1) (fx : (dfr r.v = 1 → r.1 2 = R0.i 38 ∧ NT5 (r.1 9)) ∧ (isTy r.v → TGT3 r ∧ 0 ≤ (r.2.1 66).toInt ∧ (u.a 31 (r.2.1 66).toNatClampNeg).toInt < 0) ∧ (s0.i 11).toInt ≤ (u.i 11).toInt ∧ (r.v = 218 → ((0 ≤ (r.2.1 66).toInt ∧ (r.2.1 66).toInt < (u.i 20).toInt) ∧ (u.a 22 (r.2.1 66).toNatClampNeg).toInt < 0 ∧ 0 ≤ (r.1 13).toInt ∧ (r.1 13).toInt ≤ (R.i 22).toInt ∧ (r.1 11).toInt < 0 ∧ (0 ≤ (R.i 20).toInt → ((gv.1 : Nat) : Int) ≤ (R.i 20).toInt))) ∧ ¬ r.v = 216) (hN : ∀ (nm : Nat → Nat → Prop) (G : GHT) (ω : Nat) (j : JCT), G r.2.2.1 = gv → NMH nm j.c R0 u0 → (frs j.c : Int) ≤ (s0.i 19).toInt → WNM nm W R0 j.c → HC0 nm j.h j.c → ((2 * j.h + msr j.c : Nat) : Int) ≤ (s0.i 11).toInt → NMG nm (jen G ω r j.h j.l ++ j.c) R u ∧ HC0 nm j.h (jen G ω r j.h j.l ++ j.c) ∧ ((2 * j.h + msr (jen G ω r j.h j.l ++ j.c) : Nat) : Int) ≤ (u.i 11).toInt) (hK : ∀ (FC : Nat → Prop) (SF : CS) (nm : Nat → Nat → Prop) (X : Als) (G : GHT) (col : Nat → Option (Nat × Bool)) (YJ : Nat → List Nat) (ω : Nat) (j : JCT) (Z : Prop), G r.2.2.1 = gv → 1300 ≤ ω → pcC R ≤ 1200 → HC0 nm j.h j.c → ((2 * j.h + msr j.c : Nat) : Int) ≤ (s0.i 11).toInt → K FC SF nm X ω j Z → JRH FC SF U nm X G col YJ ω r j → (R.i 36 = 1 → GU2 FC SF U nm X (pcC R) (pcR u) j.h (ω + (j.l + jlv r.v) - pcC R) (jen G ω r j.h j.l ++ j.c)) → Z ∧ JHH FC SF U nm X G ω r j) (hW : rjw W = [] := by rfl) : JRW A U B b (r :: V0) R u := by
  intro crB
  obtain ⟨b1, ⟨b2, n8⟩, b3, b4, Ψ, G, col, YJ, sax, ⟨pin, pin0⟩, tgi, ⟨jsi, bD, hds⟩, main⟩ := h crB
  replace b1 := b1.d dR
  replace bD := bD.d dR
  have hds' : HDS B (r :: V0) R := fun q hq x hx => by
    have key : ∃ w ∈ W ++ V0, rhd w x := by
      rcases List.mem_cons.mp hq with e9 | hq
      · rw [e9] at hx
        obtain ⟨h1, h2, h3⟩ := la.2.2.1
        rcases hx with ⟨z, e⟩ | ⟨z, e⟩ | ⟨z, -⟩
        · exact ⟨_, List.mem_append_left _ (h1 z), Or.inr (Or.inr ⟨rfl, e⟩)⟩
        · exact ⟨_, List.mem_append_left _ (h2 z), Or.inr (Or.inr ⟨rfl, e⟩)⟩
        · exact absurd z h3
      · exact ⟨q, List.mem_append_right _ hq, hx⟩
    obtain ⟨w, hw, hx'⟩ := key
    rw [dR.2.2.2.1, dR.1.2.1, dR.1.1]
    exact hds.1 w hw x hx'
  replace b2 : CT7 0 (B.i 21).toInt B R := fun k k1 k2 => by rw [dR.2.2.2.1]; exact b2 k k1 k2
  replace b3 := b3.d du
  replace b4 := b4.d du
  have j22 : ∀ j : Nat, ¬ col j = none → u.a 22 j = s0.a 22 j := fun j hj => by rw [du.2.2.1]; exact jsi.2.2.1 j hj
  have j31 : ∀ w : Nat, (w : Int) < (s0.i 29).toInt → ¬ PTY V0 w → u.a 31 w = s0.a 31 w := fun w w1 _ => by
    rw [du.2.2.2.2.2.2.2.2.2.1]
    exact jsi.2.2.2 w w1 (fun ⟨q, hq, _⟩ => by rw [hW] at hq; exact absurd hq List.not_mem_nil)
  have js0 : JSI Ψ V0 col YJ b s0 := by
    have z := jsi.1
    rw [hW] at z
    exact z
  have nc0 := jsi.2.1
  clear jsi
  have jsi := js0
  replace sax := sax.d dR du
  replace pin := pin.d du
  replace tgi := tgi.d dR
  have pn : ∀ q ∈ V0, ¬ q.2.2.1 = r.2.2.1 := fun q hq z => by
    have := pl q hq
    omega
  have pe : ∀ k : Nat, PEN (r :: V0) col k → PEN (W ++ V0) col k := fun k p => by
    rcases p with p | ⟨q, hq, p⟩
    · exact Or.inl p
    · rcases List.mem_cons.mp hq with z | hq
      · rw [z] at p
        obtain ⟨w, hw, p⟩ := site k p
        exact Or.inr ⟨w, List.mem_append_left _ hw, p⟩
      · exact Or.inr ⟨q, List.mem_append_right _ hq, p⟩
  have pz : ∀ k : Nat, PCZ (r :: V0) k → PCZ (W ++ V0) k := fun k p => by
    obtain ⟨q, hq, p⟩ := p
    rcases List.mem_cons.mp hq with z | hq
    · rw [z] at p
      have := (n218 p.1).1
      have := p.2
      omega
    · exact ⟨q, List.mem_append_right _ hq, p⟩
  have ph : ∀ k : Nat, PCH (r :: V0) k → PCH (W ++ V0) k := fun k p => by
    obtain ⟨q, hq, p⟩ := p
    rcases List.mem_cons.mp hq with z | hq
    · rw [z] at p
      rcases p.1 with z1 | z1
      · exact ⟨_, List.mem_append_left _ (n218 z1).2, Or.inr rfl, p.2⟩
      · exact absurd z1 n995
    · exact ⟨q, List.mem_append_right _ hq, p⟩
  have py : ∀ k : Nat, PTY (r :: V0) k → PTY (W ++ V0) k := fun k p => by
    obtain ⟨q, hq, p1, p2⟩ := p
    rcases List.mem_cons.mp hq with z | hq
    · rw [z] at p1 p2
      obtain ⟨-, -, w, hw, w1, w2⟩ := nt p1
      exact ⟨w, List.mem_append_left _ hw, w1, by rw [w2]; exact p2⟩
    · exact ⟨q, List.mem_append_right _ hq, p1, p2⟩
  have pa : ∀ k : Nat, PCA (r :: V0) k → PCA (W ++ V0) k := fun k p => by
    obtain ⟨q, hq, p1, p2⟩ := p
    rcases List.mem_cons.mp hq with z | hq
    · rw [z] at p1 p2
      have := (nt p1).2.1
      omega
    · exact ⟨q, List.mem_append_right _ hq, p1, p2⟩
  have swt : SWT (b.i 24).toInt (G.set r.2.2.1 gv) (r :: V0) R u := by
    have z : SWT (b.i 24).toInt G V0 R u := hds.2.d dR du
    refine ⟨fun q hq => ?_, fun q hq => ?_⟩
    · rcases List.mem_cons.mp hq with e9 | hq
      · rw [e9]
        refine ⟨fun w => ?_, fun w => absurd w fx.2.2.2.2, fun w => absurd w la.2.2.2.2.1, fun w => by rw [GHT.at]; exact (fx.2.2.2.1 w).2.2.2.2.2 (crB.rms b1).1.1, fun t _ => (fx.2.1 t).2.2, fun w => w.elim (fun w => absurd w la.2.2.2.2.1) (fun w => absurd w fx.2.2.2.2)⟩
        obtain ⟨-, y2, y3, y4, y5, -⟩ := fx.2.2.2.1 w
        exact ⟨[], y2, ⟨y3, by show _ + ((0 : Nat) : Int) ≤ _; omega, Nat.zero_le _, ⟨fun z => absurd z (by omega), fun ⟨_, hj, _⟩ => absurd hj List.not_mem_nil⟩⟩, fun j hj => absurd hj List.not_mem_nil⟩
      · have y := z.1 q hq
        unfold SWG
        rw [GHT.ne (pn q hq)]
        exact y
    · rcases List.mem_cons.mp hq with e9 | hq
      · rw [e9]
        exact ⟨fun w => (fx.2.2.2.1 w).1, fun w => ⟨(fx.2.1 w).2.1, by
          have ck := clampI (fx.2.1 w).2.1
          have z := pin.2.2.1 _ (py _ ⟨r, List.mem_cons_self, w, ck⟩)
          omega⟩, la.2.2.2.2.2⟩
      · exact z.2 q hq
  have dbs : DB (G.set r.2.2.1 gv) (r :: V0) = DB G V0 + dbr gv r.v := by
    show DB (G.set r.2.2.1 gv) V0 + dbr (G.set r.2.2.1 gv r.2.2.1) r.v = _
    rw [DB.gs V0 pn, GHT.at]
  have dbl : a + dbr gv r.v ≤ 0 := by
    obtain ⟨d1, d2, -, d3, d4, d5⟩ := la
    unfold dbr
    by_cases q1 : r.v = 205 ∨ r.v = 207 ∨ r.v = 304 ∨ r.v = 213 ∨ r.v = 215 ∨ r.v = 305
    · rw [if_pos q1]
      have : a ≤ -1 := d2 (by
        rcases q1 with q | q | q | q | q | q
        · exact Or.inl q
        · exact Or.inr (Or.inl q)
        · exact Or.inr (Or.inr (Or.inl q))
        · exact Or.inr (Or.inr (Or.inr (Or.inl q)))
        · exact absurd q d4
        · exact absurd q d5)
      omega
    · rw [if_neg q1]
      by_cases q2 : r.v = 218
      · rw [if_pos q2, (d3 q2).2]
        have := (d3 q2).1
        show a + (2 + 2 * ((0 : Nat) : Int)) ≤ 0
        omega
      · rw [if_neg q2]
        omega
  have hD : ∃ e : Int, (e = 0 ∨ (e = 1 ∧ ¬ ALN (R.i 43))) ∧ KD1 (-(DB (G.set r.2.2.1 gv) (r :: V0))) e B R := by
    rw [dbs]
    rcases le with z | ⟨z, z'⟩
    · exact ⟨0, Or.inl rfl, bD.wk (by omega) z⟩
    · exact ⟨1, Or.inr ⟨rfl, z'⟩, bD.wk (by omega) z⟩
  refine ⟨?_, ⟨b2, n8'  n8⟩, b3, Ψ, G.set r.2.2.1 gv, col, YJ, sax.mo py pa, ⟨fun k q => pin.1 k (pe k q), fun k q => pin.2.1 k (pz k q), fun k q => pin.2.2.1 k (py k q), fun k q => pin.2.2.2 k (pa k q)⟩, ?_, ⟨jsi.psh (gk.v (fun q hq go => (jsi.1 q hq go).1)) b4.1.1 b4.1.2.2.1 j22 j31 ⟨fun q hq k hk => (List.mem_cons.mp hq).elim (fun z => by rw [z] at hk; obtain ⟨w, hw, p⟩ := site k hk; exact nc0.1 w (List.mem_append_left _ hw) k p) (fun z => jsi.2.2.1 q z k hk), fun k hk => by obtain ⟨w, hw, p⟩ := site k hk; exact nc0.2.2 w hw k p, jsi.2.2.2⟩ pl (fun z => (nt z).1) (fun z => ⟨(gl z).1, (gl z).2.1, (gl z).2.2.1, (gl z).2.2.2.1⟩), hD, hds', swt⟩, ?_⟩
  · rcases le with z | ⟨z, z'⟩
    · exact ⟨0, Or.inl rfl, b1.wk la.1 z⟩
    · exact ⟨1, Or.inr ⟨rfl, z'⟩, b1.wk la.1 z⟩
  · obtain ⟨t1, t2⟩ := tgi
    rw [ptl.app] at t1 t2
    have pm : (rtgs r ++ ptl V0).Perm (ptl W ++ ptl V0) := tg.append_right _
    exact ⟨pm.symm.nodup t1, fun x hx => t2 x (pm.mem_iff.mp hx)⟩
  intro FC SF nm X h0 ω c0 psi ng0 hc0 hh0 hω
  obtain ⟨⟨ng, hc, hh, wn⟩, mn⟩ := main FC SF nm X h0 ω c0 psi ng0 hc0 hh0 hω
  have ecx : JCX (G.set r.2.2.1 gv) ω h0 c0 V0 = JCX G ω h0 c0 V0 := JCX.gs V0 pn
  have hj := hN nm (G.set r.2.2.1 gv) ω (JCX G ω h0 c0 V0) GHT.at ng.1 ng.2 wn.1 hc hh
  have hd : DPM (G.set r.2.2.1 gv) (frs c0) c0.length u (r :: V0) := ⟨⟨fun z => by
    obtain ⟨-, -, -, -, g5, g6, g7, g8⟩ := gl z
    obtain ⟨-, k2, k3⟩ := JCX.cnt G ω h0 c0 V0
    have m1 := ng.1.2.1
    have m2 := ng.1.2.2.1
    have m3 := hj.2.2
    have m4 := Int32.toInt_lt (u.i 11)
    obtain ⟨-, m5, -⟩ := jen.cnt (G := G.set r.2.2.1 gv) (ω := ω) (r := r) (h := (JCX G ω h0 c0 V0).h) (l := (JCX G ω h0 c0 V0).l)
    have m6 : (jen (G.set r.2.2.1 gv) ω r (JCX G ω h0 c0 V0).h (JCX G ω h0 c0 V0).l ++ (JCX G ω h0 c0 V0).c).length ≤ msr (jen (G.set r.2.2.1 gv) ω r (JCX G ω h0 c0 V0).h (JCX G ω h0 c0 V0).l ++ (JCX G ω h0 c0 V0).c) := Nat.le_add_right _ _
    rw [List.length_append, m5] at m6
    refine ⟨⟨?_, ?_⟩, g8⟩
    · rw [g5, ← m1, k2]
    · show (u.a 47 r.2.2.2).toInt = ((c0.length + (sln V0 + dln r.v) : Nat) : Int)
      rcases dln.two r.v with q | q
      · rw [g6 q, ← m2, k3, q]
        rfl
      · rw [g7 q, ad1 (by omega) (by omega), ← m2, k3, q]
        omega, fun z => ⟨by
      have k2 := (JCX.cnt G ω h0 c0 V0).2.1
      have m1 := ng.1.2.1
      rw [(fx.1 z).1, ← m1, k2], (fx.1 z).2⟩, fun z => (fx.2.1 z).1, fun z => absurd z la.2.2.2.2.1⟩, (DPM.gs V0 pn).mpr (wn.2.mv V0 (fun q hq go => (gk.2.1 _ (jsi.1 q hq go).1).2.2.2.2) fx.2.2.1)⟩
  have e1 : JCX (G.set r.2.2.1 gv) ω h0 c0 (r :: V0) = ((JCX G ω h0 c0 V0).h, (JCX G ω h0 c0 V0).l + jlv r.v, jty r.v ((JCX G ω h0 c0 V0).l + jlv r.v) (JCX G ω h0 c0 V0).t, jen (G.set r.2.2.1 gv) ω r (JCX G ω h0 c0 V0).h (JCX G ω h0 c0 V0).l ++ (JCX G ω h0 c0 V0).c) := by
    show ((JCX (G.set r.2.2.1 gv) ω h0 c0 V0).h, (JCX (G.set r.2.2.1 gv) ω h0 c0 V0).l + jlv r.v, jty r.v ((JCX (G.set r.2.2.1 gv) ω h0 c0 V0).l + jlv r.v) (JCX (G.set r.2.2.1 gv) ω h0 c0 V0).t, jen (G.set r.2.2.1 gv) ω r (JCX (G.set r.2.2.1 gv) ω h0 c0 V0).h (JCX (G.set r.2.2.1 gv) ω h0 c0 V0).l ++ (JCX (G.set r.2.2.1 gv) ω h0 c0 V0).c) = _
    rw [ecx]
  rw [e1]
  refine ⟨⟨hj.1, hj.2.1, hj.2.2, hd⟩, fun fc fg hA tyc jr cur => ?_⟩
  have jr1 : JRH FC SF U nm X (G.set r.2.2.1 gv) col YJ ω r (JCX G ω h0 c0 V0) := by
    have z := jr.1
    rw [ecx] at z
    exact z
  have jr2 : JRS FC SF U nm X G col YJ ω h0 c0 V0 := by
    have z := jr.2
    rw [JRS.gs V0 pn] at z
    exact z
  have k0 := mn ((fc.d dR).pl (fun y hy => by
    rw [ptl.app]
    rcases List.mem_append.mp (show y ∈ rtgs r ++ ptl V0 from hy) with z | z
    · exact List.mem_append_left _ (tg.mem_iff.mp z)
    · exact List.mem_append_right _ z)) ((fg.st pe pz py pa ph).d du) hA tyc jr2
  have z := hK FC SF nm X (G.set r.2.2.1 gv) col YJ ω _ _ GHT.at hω (by have := fc.1.2; unfold pcC; omega) hc hh k0 jr1 cur
  refine ⟨z.1.1, ?_⟩
  show JHH FC SF U nm X (G.set r.2.2.1 gv) ω r (JCX (G.set r.2.2.1 gv) ω h0 c0 V0) ∧ JHS FC SF U nm X (G.set r.2.2.1 gv) ω h0 c0 V0
  rw [ecx, JHS.gs V0 pn]
  exact ⟨z.2, z.1.2⟩
end
/-- nothing is known but the end -/
def JQZ : JKT := fun _ _ _ _ _ _ z => z
/-- good here with every flag gives Z; good with the flag g gives Z -/
def JQA (U : RS) (δ k p q : Nat) (Z : JKT) : JKT := fun FC SF nm X ω j z => (∀ g : Nat, GU FC SF U nm X p q (j.h + k) (ω + j.l + δ - p) g j.c) → Z FC SF nm X ω j z
def JQG (U : RS) (δ k g p q : Nat) (Z : JKT) : JKT := fun FC SF nm X ω j z => GU FC SF U nm X p q (j.h + k) (ω + j.l + δ - p) g j.c → Z FC SF nm X ω j z
/-- no code -/
theorem jsp_tok {a e a1 e1 : Int} {U s0 : RS} {K : JKT} {S R : CS} {s u : RS} (x : CD1 a1 e1 S R) (t : ∀ a b : Int, CT7 a b S R) (y : ∀ c : Int, CD2 c s u) (n50 : S.i 50 = s.i 38) (nv : NMV s u) : JSP (-1) a e a1 e1 U s0 K K S s R u := fun _ => ⟨GPS.tt, x.k, ⟨t _ _, NK.of x (y 0) n50 (Or.inl nv.1)⟩, (y _).k, SAT.tt _ _ _ _ (y 0).1.2.2.2.2.1, fun _ _ _ _ _ ng => ng.mv n50 x (y 0) nv.1 nv.2, fun _ _ _ _ _ _ _ _ _ _ _ _ _ _ _ _ k => k⟩
/-- a formula -/
theorem jsp_frm {a e : Int} {g δ k : Nat} {U s0 : RS} {Z : JKT} {S R : CS} {s u : RS} (xc : CDE g U S s R u) (n50 : S.i 50 = s.i 38) (nv : NMV s u) (la : a ≤ 1) (le : e ≤ 1) (hδ : 1264 ≤ δ) (hk : (s0.i 11).toInt + 2 * (k : Int) ≤ (s.i 11).toInt) (l19 : (s0.i 19).toInt ≤ (s.i 19).toInt) : JSP (-1) a e 0 (-1) U s0 (JQA U δ k (pcC S) (pcR s) Z) (JQG U δ (k + 1) g (pcC R) (pcR u) Z) S s R u := by
  intro rm
  have cr := rm.crb la le
  obtain ⟨f1, f2, f3, Ψ', sat, rn⟩ := xc cr
  refine ⟨Ψ', f1.k, ⟨f2, NK.of f1 f3 n50 (Or.inl nv.1)⟩, f3.k, sat, fun _ nm c _ _ ng => ng.mv n50 f1 f3 nv.1 nv.2, fun FC SF nm X ω j Zp psi fc fg ng hc hh tyc tl hω kk gu => kk (fun g0 => ?_)⟩
  have r12 := fc.1.2
  have lS := f1.1.1
  have pS : ((pcC S : Nat) : Int) = (S.i 20).toInt := Int.toNat_of_nonneg cr.1.1
  have pR : ((pcC R : Nat) : Int) = (R.i 20).toInt := Int.toNat_of_nonneg (by have := cr.1.1; omega)
  have z := rn FC SF nm X j.c (j.h + k) (ω + j.l + δ - pcC R) (ω + j.t) g0 psi fc (fg.r (by decide)) (ng.1.g (Int.le_trans ng.2 l19)) (hc.up (Nat.le_add_right _ _)) (by omega) tyc (by omega) True.intro gu
  have e1 : ω + j.l + δ - pcC R + (pcC R - pcC S) = ω + j.l + δ - pcC S := by omega
  rw [e1] at z
  exact z
section
variable {A : JBA} {U : RS} {B : CS} {b : RS} {V0 : List RVW} {s0 : RS} {W : List RVW} {K K' : JKT} {a e : Int} {S : CS} {s : RS}
/-- an instruction in the class -/
theorem JRG.add {N : Nat} {o x : Int32} {p : Unit × CS} (h : JRG A U B b V0 s0 W K a e S s) (e1 : f_X0_add N S o x = some p) (h44 : (S.i 44).toInt ≤ 900) (ha : a ≤ 200) : JRG A U B b V0 s0 W (fun FC SF nm X ω j Z => (SF.a 15 (pcC S) = o ∧ SF.a 16 (pcC S) = x ∧ pcC S < 1200 ∧ pcC p.2 = pcC S + 1) ∧ K FC SF nm X ω j Z) (a + 1) e p.2 s := by
  have z : JSP (-1) a e 1 0 U s0 K (fun FC SF nm X ω j Z => (SF.a 15 (pcC S) = o ∧ SF.a 16 (pcC S) = x ∧ pcC S < 1200 ∧ pcC p.2 = pcC S + 1) ∧ K FC SF nm X ω j Z) S s p.2 s := fun rm => by
    obtain ⟨⟨r0, r1⟩, r2, r3, r4, r5⟩ := rm
    obtain ⟨d1, d2, ⟨d3, d3'⟩, d4, d5, d6⟩ := cd_add e1 r0 (by omega)
    have pS : ((pcC S : Nat) : Int) = (S.i 20).toInt := Int.toNat_of_nonneg r0
    refine ⟨GPS.tt, d1.k, ⟨CT7.eq d4, NK.eq (by unfold f_X0_add at e1; cases e1; rfl) (by unfold f_X0_add at e1; cases e1; rfl) rfl rfl⟩, KD2.rf _ _, SAT.tt _ _ _ _ (SLC.eq rfl (Int.le_refl _)), fun _ nm c _ _ ng => ?_, fun FC SF nm X ω j Z _ fc _ _ _ _ _ _ _ k => ⟨?_, k⟩⟩
    · unfold f_X0_add at e1
      cases e1
      exact ng
    · have f := fc.2.1 (pcC S) (by omega) (by omega)
      have e9 : pcC p.2 = pcC S + 1 := by
        unfold pcC
        rw [d2]
        omega
      exact ⟨by rw [f.1]; exact d3, by rw [f.2]; exact d3', by have := fc.1.2; omega, e9⟩
  have y := h.cod z
  rw [Int.add_zero] at y
  exact y
/-- an instruction in the reference -/
theorem jsp_emt {N : Nat} {o x : Int32} {V : Int32 × RS} {y : Int} (hz : f_X12_emit N s o x = some V) (h20 : 0 ≤ (s.i 20).toInt ∧ (s.i 20).toInt < 3000) (hy : y = -1 ∨ y = V.1.toInt) (hK : ∀ (FC : Nat → Prop) (SF : CS) (nm : Nat → Nat → Prop) (X : Als) (ω : Nat) (j : JCT) (Z : Prop), U.a 21 (pcR s) = o → (y = -1 → U.a 22 (pcR s) = x) → U.a 23 (pcR s) = 0 → (((pcR s : Nat) : Int) < (U.i 20).toInt ∧ (U.i 20).toInt ≤ 3000) → pcR V.2 = pcR s + 1 → V.1.toNatClampNeg = pcR s → NMH nm j.c S s ∧ (frs j.c : Int) ≤ (s0.i 19).toInt → HC0 nm j.h j.c → ((2 * j.h + msr j.c : Nat) : Int) ≤ (s0.i 11).toInt → TYC SF U (GU FC SF U nm X) (ω + j.t) j.c → j.t ≤ j.l → 1300 ≤ ω → K FC SF nm X ω j Z → K' FC SF nm X ω j Z) : JSP y a e 0 0 U s0 K K' S s S V.2 := fun rm => by
  obtain ⟨m1, m2, m3, m4, m5, m6⟩ := cd_emit hz h20.1 h20.2
  have ps : ((pcR s : Nat) : Int) = (s.i 20).toInt := Int.toNat_of_nonneg h20.1
  have i38 : V.2.i 38 = s.i 38 := by
    unfold f_X12_emit f_X12_emit_21 at hz
    by_cases c : (3000 : Int32) ≤ s.i 20
    · have e3 : (3000 : Int32).toInt = 3000 := by decide
      have := le_int c
      omega
    rw [if_neg c] at hz
    obtain ⟨-, hz⟩ := hf_ite hz
    cases hz
    rfl
  refine ⟨GPS.tt, KD1.rf S, ⟨CT7.rf _ _ S, NK.eq rfl rfl m1.1.2.2.2.2.2 i38⟩, m1.k, SAT.tt _ _ _ _ m1.1.2.2.2.2.1, fun _ nm c _ _ ng => ?_, fun FC SF nm X ω j Z _ fc fg ng hc hh tyc tl hω k => ?_⟩
  · unfold f_X12_emit f_X12_emit_21 at hz
    by_cases c : (3000 : Int32) ≤ s.i 20
    · have e3 : (3000 : Int32).toInt = 3000 := by decide
      have := le_int c
      omega
    rw [if_neg c] at hz
    obtain ⟨-, hz⟩ := hf_ite hz
    have ncb := ng.2.2.2.mv (Int.le_refl _) m1.1.2.2.2.2.1
    cases hz
    exact ⟨ng.1, ng.2.1, ng.2.2.1, ncb⟩
  · have f := fg.2.1 (pcR s) (by omega) (by omega)
    have f1 := fg.1
    have e9 : pcR V.2 = pcR s + 1 := by
      unfold pcR
      rw [m3]
      omega
    have e8 : V.1.toNatClampNeg = pcR s := by rw [m2]; rfl
    exact hK FC SF nm X ω j Z (by rw [f.1]; exact m4) (fun q => by rw [f.2.1 (by omega)]; exact m5) (by rw [f.2.2]; exact m6) ⟨by omega, f1.2.2⟩ e9 e8 ng hc hh tyc tl hω k
/-- an instruction in both -/
theorem JRG.one {N : Nat} {o x o' x' : Int32} {p : Unit × CS} {V : Int32 × RS} (h : JRG A U B b V0 s0 W K a e S s) (e1 : f_X0_add N S o x = some p) (h44 : (S.i 44).toInt ≤ 900) (ha : a ≤ 200) (hz : f_X12_emit N s o' x' = some V) (h20 : 0 ≤ (s.i 20).toInt ∧ (s.i 20).toInt < 3000) (hK : ∀ (FC : Nat → Prop) (SF : CS) (nm : Nat → Nat → Prop) (X : Als) (ω : Nat) (j : JCT) (Z : Prop), PQX SF U (pcC S) (pcR s) → SF.a 15 (pcC S) = o → SF.a 16 (pcC S) = x → U.a 21 (pcR s) = o' → U.a 22 (pcR s) = x' → U.a 23 (pcR s) = 0 → pcC p.2 = pcC S + 1 → pcR V.2 = pcR s + 1 → NMH nm j.c p.2 s ∧ (frs j.c : Int) ≤ (s0.i 19).toInt → HC0 nm j.h j.c → ((2 * j.h + msr j.c : Nat) : Int) ≤ (s0.i 11).toInt → TYC SF U (GU FC SF U nm X) (ω + j.t) j.c → j.t ≤ j.l → 1300 ≤ ω → K FC SF nm X ω j Z → K' FC SF nm X ω j Z) : JRG A U B b V0 s0 W K' (a + 1) e p.2 V.2 := by
  have y := (h.add e1 h44 ha).cod (jsp_emt (K' := K') (y := -1) hz h20 (Or.inl rfl) (fun FC SF nm X ω j Z q1 q2 q3 q4 q5 q6 ng hc hh tyc tl hω k => hK FC SF nm X ω j Z ⟨k.1.2.2.1, q4⟩ k.1.1 k.1.2.1 q1 (q2 rfl) q3 k.1.2.2.2 q5 ng hc hh tyc tl hω k.2))
  rw [Int.add_zero, Int.add_zero] at y
  exact y
/-- and its site waits -/
theorem JRG.ons {N : Nat} {o x o' x' : Int32} {p : Unit × CS} {V : Int32 × RS} (h : JRG A U B b V0 s0 W K a e S s) (e1 : f_X0_add N S o x = some p) (h44 : (S.i 44).toInt ≤ 900) (ha : a ≤ 200) (hz : f_X12_emit N s o' x' = some V) (h20 : 0 ≤ (s.i 20).toInt ∧ (s.i 20).toInt < 3000) (hK : ∀ (FC : Nat → Prop) (SF : CS) (nm : Nat → Nat → Prop) (X : Als) (ω : Nat) (j : JCT) (Z : Prop), PQX SF U (pcC S) (pcR s) → SF.a 15 (pcC S) = o → SF.a 16 (pcC S) = x → U.a 21 (pcR s) = o' → V.1.toNatClampNeg = pcR s → U.a 23 (pcR s) = 0 → pcC p.2 = pcC S + 1 → pcR V.2 = pcR s + 1 → NMH nm j.c p.2 s ∧ (frs j.c : Int) ≤ (s0.i 19).toInt → HC0 nm j.h j.c → ((2 * j.h + msr j.c : Nat) : Int) ≤ (s0.i 11).toInt → TYC SF U (GU FC SF U nm X) (ω + j.t) j.c → j.t ≤ j.l → 1300 ≤ ω → K FC SF nm X ω j Z → K' FC SF nm X ω j Z) : JRG A U B b V0 s0 (sv V.1 :: W) K' (a + 1) e p.2 V.2 := by
  obtain ⟨m1, m2, m3, -⟩ := cd_emit hz h20.1 h20.2
  have y := (h.add e1 h44 ha).sit (y := V.1) (jsp_emt (K' := K') (y := V.1.toInt) hz h20 (Or.inr rfl) (fun FC SF nm X ω j Z q1 q2 q3 q4 q5 q6 ng hc hh tyc tl hω k => hK FC SF nm X ω j Z ⟨k.1.2.2.1, q4⟩ k.1.1 k.1.2.1 q1 q6 q3 k.1.2.2.2 q5 ng hc hh tyc tl hω k.2)) ⟨by rw [m2]; exact Int.le_refl _, by rw [m2]; omega⟩
  rw [Int.add_zero, Int.add_zero] at y
  exact y
/-- a step -/
theorem JRG.stp {N : Nat} {δ δ' : Nat} {Z : JKT} {p : Unit × CS} {V : Int32 × RS} (h : JRG A U B b V0 s0 W (JQA U δ 0 (pcC S) (pcR s) Z) a e S s) (e1 : f_X0_add N S 51 0 = some p) (h44 : (S.i 44).toInt ≤ 900) (ha : a ≤ 200) (hz : f_X12_emit N s 1 0 = some V) (h20 : 0 ≤ (s.i 20).toInt ∧ (s.i 20).toInt < 3000) (hδ : δ' ≤ δ + 2528) : JRG A U B b V0 s0 W (JQG U δ' 0 1 (pcC p.2) (pcR V.2) Z) (a + 1) e p.2 V.2 := h.one e1 h44 ha hz h20 (fun FC SF nm X ω j Zp pq a1 a2 b1 b2 b3 c1 c2 _ hc hh tyc tl hω k gu => k (fun g => by
  have p12 := pq.1
  rw [c1, c2] at gu
  exact gi_UStp (pq.hc hc) pq.2.1 ⟨a1, b1, by omega, _, by omega, gu⟩))
/-- from the rows to behind the first step -/
theorem JRW.go1 {N : Nat} {S0 : CS} {s0 : RS} {p : Unit × CS} {V : Int32 × RS} (h : JRW A U B b V0 S0 s0) (h1 : e = 1 ∨ (e = 0 ∧ ALN (S0.i 43))) (cS : CD1 0 0 S0 S) (tS : ∀ a b : Int, CT7 a b S0 S) (cs : ∀ c : Int, CD2 c s0 s) (pS : S.i 20 = S0.i 20) (ps : s.i 20 = s0.i 20) (n50 : S0.i 50 = s0.i 38) (nv : NMV s0 s) (e1 : f_X0_add N S 51 0 = some p) (h44 : (S.i 44).toInt ≤ 900) (hz : f_X12_emit N s 1 0 = some V) (h20 : 0 ≤ (s.i 20).toInt ∧ (s.i 20).toInt < 3000) : JRG A U B b V0 s0 [] (JQG U 1264 0 1 (pcC p.2) (pcR V.2) JQZ) 1 e p.2 V.2 := by
  have y1 := (h.go h1).cod (jsp_tok cS tS cs n50 nv)
  have pc : pcC S = pcC S0 := by unfold pcC; rw [pS]
  have pr : pcR s = pcR s0 := by unfold pcR; rw [ps]
  have y2 : JRG A U B b V0 s0 [] (JQA U 0 0 (pcC S) (pcR s) JQZ) 0 e S s := y1.imp (by omega) (by omega) (fun FC SF nm X ω j Z _ _ _ _ _ _ k q => by
    rw [pc, pr] at q
    exact k ⟨q 0, q 1⟩)
  exact (y2.stp (δ' := 1264) e1 h44 (by decide) hz h20 (by omega))
end
/-- a statement's code behind its step, for rows V -/
def JOK (A : JBA) (V : List RVW) (U : RS) (P : CS) (y : RS) (R : CS) (u : RS) : Prop := ∃ T : JT9, CDW (-1) T U P y R u ∧ ∀ (FC : Nat → Prop) (SF : CS) (nm : Nat → Nat → Prop) (X : Als) (G : GHT) (ω h0 : Nat) (c0 : List Ent), 1300 ≤ ω → pcC R ≤ 1200 → A FC SF nm X h0 ω c0 → NMG nm (JCX G ω h0 c0 V).c P y → HC0 nm (JCX G ω h0 c0 V).h (JCX G ω h0 c0 V).c → (R.i 36 = 1 → GU2 FC SF U nm X (pcC R) (pcR u) (JCX G ω h0 c0 V).h (ω + (JCX G ω h0 c0 V).l - pcC R) (JCX G ω h0 c0 V).c) → T FC SF nm X (JCX G ω h0 c0 V).c (JCX G ω h0 c0 V).h (ω + (JCX G ω h0 c0 V).l + 1264 - pcC R)
/-- the kinds are there -/
def KU3 (U s : RS) : Prop := U.i 3 = s.i 3 ∧ 4 ≤ (U.i 3).toInt
theorem DON.cdw {k : Int} {d : Int32} {t : Nat} {T : JT9} {U : RS} {P R : CS} {y u : RS} (dn : DON d t P y R u) (ev : ENV d P y) (e38 : u.i 38 = y.i 38) (h : CDG k T U P y R u) : CDW k T U P y R u := h.t ev.2.1.1 e38 (fun j hj => (dn.2.2.2.1.1 j hj).2.1) (by rw [dn.2.2.2.2.2.2.2.2.2.1.2.2.2]; exact Int.le_refl _)
/-- log, new names, and the like: the place behind is good -/
theorem JOK.go {A : JBA} {V : List RVW} {U : RS} {P R : CS} {y u : RS} (h : CDW (-1) (JGO U R u) U P y R u) (h36 : R.i 36 = 1) : JOK A V U P y R u := ⟨JGO U R u, h, fun _ _ _ _ _ _ _ _ _ _ _ _ _ cur => ⟨_, by omega, cur h36⟩⟩
theorem JOK.no {A : JBA} {V : List RVW} {U : RS} {P R : CS} {y u : RS} (h : CDW (-1) JNO U P y R u) : JOK A V U P y R u := ⟨JNO, h, fun _ _ _ _ _ _ _ _ _ _ _ _ _ _ => True.intro⟩
theorem JOK.k3 {A : JBA} {V : List RVW} {U : RS} {P R : CS} {y u : RS} (h : CDW (-1) (JK3 U y) U P y R u) (k : KU3 U y) : JOK A V U P y R u := ⟨JK3 U y, h, fun _ _ _ _ _ _ _ _ _ _ _ _ _ _ => k⟩
theorem JOK.gk {A : JBA} {V : List RVW} {U : RS} {P R : CS} {y u : RS} (h : CDW (-1) (fun FC SF nm X c h w2 => JGO U R u FC SF nm X c h w2 ∧ JK3 U y FC SF nm X c h w2) U P y R u) (h36 : R.i 36 = 1) (k : KU3 U y) : JOK A V U P y R u := ⟨_, h, fun _ _ _ _ _ _ _ _ _ _ _ _ _ cur => ⟨⟨_, by omega, cur h36⟩, k⟩⟩
/-- from one state to a later one: the rows' code goes with it -/
def JTR (A : JBA) (U : RS) (B : CS) (b : RS) (L : List CEL) (S : CS) (s : RS) : List RVW → CS → RS → Prop := fun V R u => KU3 U s → JRW A U B b (vws S s L) S s → JRW A U B b V R u
/-- a statement that ends in its turn: its code behind its step -/
theorem jsp_cdw {e : Int} {T : JT9} {U s0 : RS} {P R : CS} {y u : RS} (cw : CDW (-1) T U P y R u) (n50 : P.i 50 = y.i 38) (le : e ≤ 1) (h11 : (s0.i 11).toInt ≤ (y.i 11).toInt) (l19 : (s0.i 19).toInt ≤ (y.i 19).toInt) : JSPT True (-1) 1 e (-1) (-1) U s0 (JQG U 1264 0 1 (pcC P) (pcR y) JQZ) (fun FC SF nm X ω j Z => NMG nm j.c P y ∧ (T FC SF nm X j.c j.h (ω + j.l + 1264 - pcC R) → Z)) P y R u := by
  intro rm
  have cr := rm.crb (by omega) le
  obtain ⟨f1, f2, f3, Ψ', sat, knm, kgu⟩ := cw cr
  refine ⟨Ψ', f1.k, ⟨f2, NK.of f1 f3 n50 (Or.inr True.intro)⟩, f3.k, sat, fun FC nm c psi fr ng => (knm FC nm c psi (ng.g (Int.le_trans fr l19))).h, fun FC SF nm X ω j Zp psi fc fg ng hc hh tyc tl hω kk => ⟨ng.1.g (Int.le_trans ng.2 l19), fun tt => kk ?_⟩⟩
  have r12 := fc.1.2
  have lS := f1.1.1
  have pS : ((pcC P : Nat) : Int) = (P.i 20).toInt := Int.toNat_of_nonneg cr.1.1
  have pR : ((pcC R : Nat) : Int) = (R.i 20).toInt := Int.toNat_of_nonneg (by have := cr.1.1; omega)
  have z := kgu FC SF nm X j.c j.h (ω + j.l + 1264 - pcC R) (ω + j.t) 1 psi fc (fg.r (by decide)) (ng.1.g (Int.le_trans ng.2 l19)) hc (by omega) tyc (by omega) tt
  have e1 : ω + j.l + 1264 - pcC R + (pcC R - pcC P) = ω + j.l + 1264 - pcC P := by omega
  rw [e1] at z
  exact z
theorem JRW.sim {N : Nat} {d : Int32} {U : RS} {B S S1 R : CS} {b s s1 u : RS} {V : List RVW} {p : Unit × CS} {y : Int32 × RS} {A : JBA} (h : JRW A U B b V S s) (ev1 : ENV d S1 s1) (h1 : 1 ≤ phI s1) (cS : CD1 0 0 S S1) (tS : ∀ a b : Int, CT7 a b S S1) (cs : ∀ c : Int, CD2 c s s1) (pS : S1.i 20 = S.i 20) (ps : s1.i 20 = s.i 20) (n50 : S.i 50 = s.i 38) (hb : (b.i 38).toInt ≤ (s.i 38).toInt) (nv : NMV s s1) (e1 : f_X0_add N S1 51 0 = some p) (hy : f_X12_emit N s1 1 0 = some y) (l19 : (s.i 19).toInt ≤ (y.2.i 19).toInt ∧ (s.i 19).toInt ≤ (u.i 19).toInt) (ok : JOK A V U p.2 y.2 R u) (l11 : (s.i 11).toInt ≤ (y.2.i 11).toInt ∧ (s.i 11).toInt ≤ (u.i 11).toInt) (gk : GKP s u) : JRW A U B b V R u := by
  obtain ⟨T, cw, tt⟩ := ok
  have q44 : (S1.i 44).toInt = (s1.i 11).toInt := by rw [ev1.p44.1]
  have h6 := (i11_hi ev1).2
  have p20 := ev1.p20
  have p50 : p.2.i 50 = S1.i 50 := by
    unfold f_X0_add at e1
    cases e1
    rfl
  have y38 : y.2.i 38 = s1.i 38 := by
    have hz := hy
    unfold f_X12_emit f_X12_emit_21 at hz
    by_cases c : (3000 : Int32) ≤ s1.i 20
    · have e3 : (3000 : Int32).toInt = 3000 := by decide
      have := le_int c
      omega
    rw [if_neg c] at hz
    obtain ⟨-, hz⟩ := hf_ite hz
    cases hz
    rfl
  have z := (h.go1 (e := 1) (Or.inl rfl) cS tS cs pS ps n50 nv e1 (by omega) hy ⟨p20.1, by omega⟩).codT (fun _ => by rw [y38, nv.1]; exact hb) (jsp_cdw cw (by rw [p50, y38]; exact ev1.2.1.1) (by omega) l11.1 l19.1)
  exact z.fin (by omega) (Or.inl (by omega)) gk l11.2 l19.2 (fun FC SF nm X G h0 c0 ω Z hω r12 hA ng hc k cur => k.2 (tt FC SF nm X G ω h0 c0 hω r12 hA k.1 hc cur))
theorem vws.pl {d : Int32} {B : CS} {b : RS} {t0 : Nat} {c1 : CEL} {L : List CEL} {x : Int} {S R : CS} {s u : RS} (h : COR d B b t0 (c1 :: L) x S s) : ∀ q ∈ vws R u L, q.2.2.1 < c1.1 := fun q hq => by
  obtain ⟨c, hc, e⟩ := List.mem_map.mp hq
  rw [← e]
  exact STK.ord L c1 _ _ _ h.2.1 c hc
theorem vws.pl1 {d : Int32} {B : CS} {b : RS} {t0 n : Nat} {c : CEL} {L : List CEL} {x : Int} {S R : CS} {s u : RS} (h : COR d B b t0 (c :: L) x S s) (hn : n = c.1 + 1) : ∀ q ∈ vws R u (c :: L), q.2.2.1 < n := fun q hq => by
  obtain ⟨y, hy, e⟩ := List.mem_map.mp hq
  rw [← e]
  show y.1 < n
  rcases List.mem_cons.mp hy with z | z
  · rw [z]
    omega
  · have := STK.ord L c _ _ _ h.2.1 y z
    omega
theorem GKP.tbk {s u : RS} (h : TBK s u) : GKP s u := GKP.tbr h.1.2 (by rw [h.1.1.2.2.2.2.1]; exact Int.le_refl _)
/-- no entry: the context stays -/
theorem jen.no {G : GHT} {ω : Nat} {r : RVW} {h l : Nat} (n1 : ¬ r.v = 212) (n2 : ¬ isTy r.v) (n3 : ¬ r.v = 304) : jen G ω r h l = [] := by
  unfold jen
  rw [if_neg n1, if_neg (fun z => n2 (Or.inl z)), if_neg (fun z => n2 (Or.inr (Or.inl z))), if_neg (fun z => n2 (Or.inr (Or.inr (Or.inr z)))), if_neg n3]
section
variable {A : JBA} {U : RS} {B : CS} {b : RS} {V0 : List RVW} {s0 : RS} {W : List RVW} {K K' : JKT} {a e : Int} {R : CS} {u : RS} {r : RVW}
/-- a row without an entry -/
theorem JRG.ps0 (h : JRG A U B b V0 s0 W K a e R u) (la : a ≤ 0 ∧ (r.v = 205 ∨ r.v = 207 → a ≤ -1 ∧ hv (r.1 10) ∈ W) ∧ (r.v = 206 → hv (r.1 11) ∈ W) ∧ ¬ (r.v = 994 ∨ r.v = 204)) (le : e ≤ 0 ∨ (e ≤ 1 ∧ ¬ ALN (R.i 43))) (gk : GKP s0 u) (l11 : (s0.i 11).toInt ≤ (u.i 11).toInt) (l19 : (s0.i 19).toInt ≤ (u.i 19).toInt) (pl : ∀ q ∈ V0, q.2.2.1 < r.2.2.1) (nt : ¬ isTyv r) (n218 : ¬ r.v = 218) (n995 : ¬ r.v = 995) (n212 : ¬ r.v = 212) (n304 : ¬ r.v = 304) (site : ∀ k : Nat, rsite r k → ∃ w ∈ W, rsite w k) (tg : (rtgs r).Perm (ptl W)) (gl : isGo r.v → (s0.i 43).toInt ≤ ((r.2.2.2 : Nat) : Int) ∧ ((r.2.2.2 : Nat) : Int) < (u.i 43).toInt ∧ (u.a 48 r.2.2.2).toInt < 0 ∧ (u.a 49 r.2.2.2).toInt < 0 ∧ r.1 2 = R.i 38 ∧ (dln r.v = 0 → u.a 47 r.2.2.2 = u.i 52) ∧ (dln r.v = 1 → u.a 47 r.2.2.2 = u.i 52 + 1) ∧ NT5 (r.1 9) ∧ (isLo r.v → NT5 (r.1 10)) ∧ RHP r.v r.2.1) (r36 : R.i 36 = 1) (hK : ∀ (FC : Nat → Prop) (SF : CS) (nm : Nat → Nat → Prop) (X : Als) (G : GHT) (col : Nat → Option (Nat × Bool)) (YJ : Nat → List Nat) (ω : Nat) (j : JCT) (Z : Prop), 1300 ≤ ω → pcC R ≤ 1200 → HC0 nm j.h j.c → ((2 * j.h + msr j.c : Nat) : Int) ≤ (s0.i 11).toInt → K FC SF nm X ω j Z → JRH FC SF U nm X G col YJ ω r j → GU2 FC SF U nm X (pcC R) (pcR u) j.h (ω + (j.l + jlv r.v) - pcC R) j.c → Z ∧ JHH FC SF U nm X G ω r j) (hW : rjw W = [] := by rfl) : JRW A U B b (r :: V0) R u := by
  have en : ∀ (G : GHT) (ω h l : Nat), jen G ω r h l = [] := fun _ _ _ _ => jen.no n212 nt n304
  have dl0 : d32 r.v = 0 := by
    exact d32.no (fun z => z.elim n212 (fun z => z.elim (fun z => nt (Or.inl z)) (fun z => z.elim (fun z => nt (Or.inr (Or.inl z))) (fun z => z.elim (fun z => nt (Or.inr (Or.inr (Or.inr z)))) n304))))
  refine JRG.psd (0, 0, []) (fun z => z.ps rfl rfl (by rw [dl0, Int32.add_zero]) (Int.le_refl _)) (D38.rf _) (D52.rf _) h ⟨la.1, fun z => by
    rcases z with z | z | z | z | z
    · exact (la.2.1 (Or.inl z)).1
    · exact (la.2.1 (Or.inr z)).1
    · exact absurd z n304
    · exact absurd (Or.inl z) nt
    · exact absurd z n218, ⟨fun z => by
      rcases z with z | z | z | z
      · exact (la.2.1 (Or.inl z)).2
      · exact (la.2.1 (Or.inr z)).2
      · exact absurd z n304
      · exact absurd (Or.inr z) la.2.2.2, la.2.2.1, fun z => la.2.2.2 (Or.inl z)⟩, fun z => absurd z n218, fun z => nt (Or.inr (Or.inl z)), fun z => nt (Or.inr (Or.inr (Or.inl z)))⟩ le gk l19 pl (fun y => absurd y nt) (fun z => absurd z n218) n995 site tg gl ⟨fun z => by
      unfold dfr at z
      rw [if_neg (fun q => q.elim n212 (fun q => nt (q.elim Or.inl (fun q => q.elim (fun q => Or.inr (Or.inl q)) (fun q => Or.inr (Or.inr (Or.inr q)))))))] at z
      exact absurd z (by decide), fun z => absurd z nt, l11, fun z => absurd z n218, fun z => nt (Or.inr (Or.inr (Or.inr z)))⟩ (fun nm G ω j _ ng fr _ hc hh => ?_) (fun FC SF nm X G col YJ ω j Z _ hω r12 hc hh k jr cur => ?_) hW
  · rw [en]
    exact ⟨ng.g (Int.le_trans fr l19), hc, Int.le_trans hh l11⟩
  · rw [en] at cur
    exact hK FC SF nm X G col YJ ω j Z hω r12 hc hh k jr (cur r36)
end
/-- the heads of rows that have none -/
theorem JHH.no {FC : Nat → Prop} {SF : CS} {U : RS} {nm : Nat → Nat → Prop} {X : Als} {G : GHT} {ω : Nat} {r : RVW} {j : JCT} (h : ¬ (r.v = 205 ∨ r.v = 206 ∨ r.v = 207 ∨ r.v = 304 ∨ r.v = 218)) : JHH FC SF U nm X G ω r j := ⟨fun q => absurd (Or.inl q) h, fun q => absurd (Or.inr (Or.inl q)) h, fun q => absurd (Or.inr (Or.inr (Or.inl q))) h, fun q => absurd (Or.inr (Or.inr (Or.inr (Or.inl q)))) h, fun q => absurd (Or.inr (Or.inr (Or.inr (Or.inr q)))) h⟩
/-- a block -/
theorem JRW.psh {A : JBA} {U : RS} {B S R : CS} {b s u : RS} {V : List RVW} {r : RVW} {a e : Int} (h : JRW A U B b V S s) (hr : r.v = 301) (x : CD1 a e S R) (xa : a ≤ 0) (xe : e ≤ -1) (t : ∀ a b : Int, CT7 a b S R) (y : ∀ c : Int, CD2 c s u) (pC : R.i 20 = S.i 20) (pR : u.i 20 = s.i 20) (n50 : S.i 50 = s.i 38) (nv : NMV s u) (r36 : R.i 36 = 1) (gk : GKP s u) (l11 : (s.i 11).toInt ≤ (u.i 11).toInt) (l19 : (s.i 19).toInt ≤ (u.i 19).toInt) (pl : ∀ q ∈ V, q.2.2.1 < r.2.2.1) : JRW A U B b (r :: V) R u := by
  have pc : pcC R = pcC S := by unfold pcC; rw [pC]
  have pr : pcR u = pcR s := by unfold pcR; rw [pR]
  have jl : jlv r.v = 0 := by rw [hr]; rfl
  have z := (h.go (e := 1) (Or.inl rfl)).cod (jsp_tok x t y n50 nv)
  refine z.ps0 ⟨by omega, fun y => by rcases y with y | y <;> rw [hr] at y <;> exact absurd y (by decide), fun y => absurd (hr.symm.trans y) (by decide), by rw [hr]; decide⟩ (Or.inl (by omega)) gk l11 l19 pl (fun q => ?_) (by rw [hr]; decide) (by rw [hr]; decide) (by rw [hr]; decide) (by rw [hr]; decide) (fun k q => ?_) ?_ (fun q => ?_) r36 (fun FC SF nm X G col YJ ω j Z hω r12 hc hh k jr cur => ?_)
  · rcases q with q | q | q | q <;> rw [hr] at q <;> exact absurd q (by decide)
  · unfold rsite at q
    rw [hr] at q
    rcases q with ⟨q, -⟩ | ⟨q, -⟩ | ⟨q, -⟩ | ⟨q, -⟩
    · rcases q with q | q | q <;> exact absurd q (by decide)
    · exact absurd q (by decide)
    · rcases q with q | q <;> exact absurd q (by decide)
    · rcases q with q | q <;> exact absurd q (by decide)
  · unfold rtgs
    rw [hr]
    exact List.Perm.nil
  · rcases q with q | q | q | q | q | q <;> rw [hr] at q <;> exact absurd q (by decide)
  · rw [jl, pc, pr] at cur
    exact ⟨k cur, JHH.no (by rw [hr]; decide)⟩
/-- if: behind its condition -/
theorem JRW.ifs {N : Nat} {A : JBA} {d1 d2 d3 : Int32} {U : RS} {B C0 C1 C2 C3 R : CS} {b s y0 z1 z2 z3 u : RS} {V : List RVW} {r : RVW} {C4 : Unit × CS} {z4 : Int32 × RS} {w : Int32 × CS} (j1 : JRG A U B b V s [] (JQG U 1264 0 1 (pcC C0) (pcR y0) JQZ) 1 1 C0 y0) (ev2 : ENV d1 C0 y0) (et : f_X0_newTarget N C0 = some w) (c1 : CD1 (-2) (-2) w.2 C1) (t1 : ∀ a b : Int, CT7 a b w.2 C1) (p1 : C1.i 20 = C0.i 20) (q1 : ∀ c : Int, CD2 c y0 z1) (r1 : z1.i 20 = y0.i 20) (n1 : NMV y0 z1) (xc : CDE 2 U C1 z1 C2 z2) (ez : ENV d2 C1 z1) (n2 : NMV z1 z2) (e2 : ENV d2 C2 z2) (c3 : CD1 (-1) (-1) C2 C3) (t3 : ∀ a b : Int, CT7 a b C2 C3) (p3 : C3.i 20 = C2.i 20) (q3 : ∀ c : Int, CD2 c z2 z3) (r3 : z3.i 20 = z2.i 20) (n3 : NMV z2 z3) (e3 : ENV d3 C3 z3) (h3 : 1 ≤ phI z3) (e4 : f_X0_add N C3 31 w.1 = some C4) (hz : f_X12_emit N z3 13 0 = some z4) (c5 : CD1 0 0 C4.2 R) (t5 : ∀ a b : Int, CT7 a b C4.2 R) (p5 : R.i 20 = C4.2.i 20) (q5 : ∀ c : Int, CD2 c z4.2 u) (r5 : u.i 20 = z4.2.i 20) (n45 : C4.2.i 50 = z4.2.i 38) (n5 : NMV z4.2 u) (hr : r.v = 203) (rx : r.1 10 = w.1) (rs : r.2.1 66 = z4.1) (r36 : R.i 36 = 1) (gk : GKP s u) (l11 : (s.i 11).toInt ≤ (z1.i 11).toInt ∧ (s.i 11).toInt ≤ (u.i 11).toInt) (l19 : (s.i 19).toInt ≤ (z1.i 19).toInt ∧ (s.i 19).toInt ≤ (u.i 19).toInt) (pl : ∀ q ∈ V, q.2.2.1 < r.2.2.1) : JRW A U B b (r :: V) R u := by
  have g44 : (C0.i 44).toInt = (y0.i 11).toInt := by rw [ev2.p44.1]
  have g6 := (i11_hi ev2).2
  have k44 : (C3.i 44).toInt = (z3.i 11).toInt := by rw [e3.p44.1]
  have k6 := (i11_hi e3).2
  have k20 := e3.p20
  have j2 := j1.nt et (by omega) (by omega)
  have w50 : w.2.i 50 = C0.i 50 := by
    unfold f_X0_newTarget at et
    cases et
    rfl
  have j3 := j2.cod (jsp_tok c1 t1 q1 (w50.trans ev2.2.1.1) n1)
  have pc1 : pcC C1 = pcC C0 := by unfold pcC; rw [p1]
  have pr1 : pcR z1 = pcR y0 := by unfold pcR; rw [r1]
  have j4 : JRG A U B b V s [tv w.1] (JQA U 1264 0 (pcC C1) (pcR z1) JQZ) (-1) 0 C1 z1 := j3.imp (by omega) (by omega) (fun FC SF nm X ω j Z _ _ _ _ _ _ k q => by
    rw [pc1, pr1] at q
    exact k (q 1))
  have j5 := j4.cod (jsp_frm xc ez.2.1.1 n2 (by omega) (by omega) (by omega) (by omega) l19.1)
  have j6 := j5.cod (jsp_tok c3 t3 q3 e2.2.1.1 n3)
  have pc3 : pcC C3 = pcC C2 := by unfold pcC; rw [p3]
  have pr3 : pcR z3 = pcR z2 := by unfold pcR; rw [r3]
  have j7 := j6.ons (K' := fun FC SF nm X ω j Z => PRT FC SF U nm X w.1 z4.1 ω j → GU FC SF U nm X (pcC C4.2) (pcR z4.2) j.h (ω + j.l - pcC C4.2) 0 j.c → Z) e4 (by omega) (by omega) hz ⟨k20.1, by omega⟩ (fun FC SF nm X ω j Z pq a1 a2 b1 b2 b3 v1 v2 _ hc hh tyc tl hω k prt gu => k (by
    rw [← pc3, ← pr3]
    obtain ⟨pp, qq, w1, w2, w3⟩ := prt
    rw [b2] at w2
    rw [v1, v2] at gu
    have := pq.1
    exact gi_UJz (pq.hc (hc.up (Nat.le_add_right _ _))) pq.2.1 ⟨a1, b1, _, rfl, Or.inr ⟨pp, qq, _, ⟨by rw [a2]; exact w1, w2⟩, by omega, w3⟩, ⟨_, by omega, gu⟩⟩))
  have j8 := j7.cod (jsp_tok c5 t5 q5 n45 n5)
  have pc5 : pcC R = pcC C4.2 := by unfold pcC; rw [p5]
  have pr5 : pcR u = pcR z4.2 := by unfold pcR; rw [r5]
  have jl : jlv r.v = 0 := by rw [hr]; rfl
  refine j8.ps0 ⟨by omega, fun y => by rcases y with y | y <;> rw [hr] at y <;> exact absurd y (by decide), fun y => absurd (hr.symm.trans y) (by decide), by rw [hr]; decide⟩ (Or.inl (by omega)) gk l11.2 l19.2 pl (fun q => ?_) (by rw [hr]; decide) (by rw [hr]; decide) (by rw [hr]; decide) (by rw [hr]; decide) (fun k q => ?_) ?_ (fun q => ?_) r36 (fun FC SF nm X G col YJ ω j Z hω r12 hc hh k jr cur => ?_)
  · rcases q with q | q | q | q <;> rw [hr] at q <;> exact absurd q (by decide)
  · unfold rsite at q
    rw [hr] at q
    rcases q with ⟨-, q⟩ | ⟨q, -⟩ | ⟨q, -⟩ | ⟨q, -⟩
    · rw [rs] at q
      exact ⟨_, List.mem_cons_self, sv.site.mpr q⟩
    · exact absurd q (by decide)
    · rcases q with q | q <;> exact absurd q (by decide)
    · rcases q with q | q <;> exact absurd q (by decide)
  · have e1 : rtgs r = [w.1] := by
      unfold rtgs
      rw [hr, if_pos rfl, rx]
    have e2 : ptl [sv z4.1, tv w.1] = [w.1] := by
      show rtgs (sv z4.1) ++ (rtgs (tv w.1) ++ []) = _
      rw [sv.tgs, tv.tgs]
      rfl
    rw [e1]
    exact List.Perm.of_eq e2.symm
  · rcases q with q | q | q | q | q | q <;> rw [hr] at q <;> exact absurd q (by decide)
  · rw [jl, pc5, pr5] at cur
    have prt := jr.1 hr
    rw [rx, rs] at prt
    exact ⟨k prt cur.1, JHH.no (by rw [hr]; decide)⟩
/-- a statement's step: from S, s to behind it -/
def JST (N : Nat) (S : CS) (s : RS) (P : CS) (q : RS) : Prop := ∃ (d1 : Int32) (S1 : CS) (s1 : RS) (p : Unit × CS) (y : Int32 × RS), ENV d1 S1 s1 ∧ CD1 0 0 S S1 ∧ (∀ a b : Int, CT7 a b S S1) ∧ (∀ c : Int, CD2 c s s1) ∧ S1.i 20 = S.i 20 ∧ s1.i 20 = s.i 20 ∧ 1 ≤ phI s1 ∧ f_X0_add N S1 51 0 = some p ∧ f_X12_emit N s1 1 0 = some y ∧ p.2 = P ∧ y.2 = q ∧ NMV s q ∧ NMV s s1
theorem JST.go {N : Nat} {A : JBA} {U : RS} {B : CS} {b : RS} {V0 : List RVW} {e : Int} {S P : CS} {s q : RS} (j : JST N S s P q) (h : JRW A U B b V0 S s) (h1 : e = 1 ∨ (e = 0 ∧ ALN (S.i 43))) (n50 : S.i 50 = s.i 38) : JRG A U B b V0 s [] (JQG U 1264 0 1 (pcC P) (pcR q) JQZ) 1 e P q := by
  obtain ⟨d1, S1, s1, p, y, ev, cS, tS, cs, pS, ps, ph, e1, hy, eP, eq, -, nv⟩ := j
  have q44 : (S1.i 44).toInt = (s1.i 11).toInt := by rw [ev.p44.1]
  have h6 := (i11_hi ev).2
  have p20 := ev.p20
  rw [← eP, ← eq]
  exact h.go1 h1 cS tS cs pS ps n50 nv e1 (by omega) hy ⟨p20.1, by omega⟩
/-- what a loop's row brings -/
def LPF (s u : RS) (g : Nat) : Prop := GKP s u ∧ (s.i 43).toInt ≤ (g : Int) ∧ (g : Int) < (u.i 43).toInt ∧ (u.a 48 g).toInt < 0 ∧ (u.a 49 g).toInt < 0 ∧ u.a 47 g = u.i 52
theorem LPF.gl {o2 i38 v x9 x10 : Int32} {f : Nat → Int32} {s u : RS} {g : Nat} (h : LPF s u g) (h2 : o2 = i38) (h9 : NT5 x9 ∧ NT5 x10) (hp : RHP v f) (hd : dln v = 0) : (s.i 43).toInt ≤ (g : Int) ∧ (g : Int) < (u.i 43).toInt ∧ (u.a 48 g).toInt < 0 ∧ (u.a 49 g).toInt < 0 ∧ o2 = i38 ∧ (dln v = 0 → u.a 47 g = u.i 52) ∧ (dln v = 1 → u.a 47 g = u.i 52 + 1) ∧ NT5 x9 ∧ (isLo v → NT5 x10) ∧ RHP v f := by
  obtain ⟨-, h1, h2', h3, h4, h6⟩ := h
  exact ⟨h1, h2', h3, h4, h2, fun _ => h6, fun z => by omega, h9.1, fun _ => h9.2, hp⟩
theorem psh48_o2 {N : Nat} {s : CS} {x1 x2 x3 x4 : Int32} {a : Nat} {R : Option Nat × CS} (e : f_X6_push_48 N s x1 x2 x3 x4 a = some R) : R.1 = some a ∧ R.2.o a 2 = x2 := by
  unfold f_X6_push_48 at e
  obtain ⟨-, e⟩ := hf_ite e
  cases e
  refine ⟨rfl, ?_⟩
  generalize CS.setI (CS.setI s 53 (x4 + 1)) 54 (s.i 54 + 1) = B
  have z : ∃ g : Nat → Int32, OUV B (CS.setO (CS.setO (CS.setO (CS.setO (CS.setO (CS.setO (CS.setO (CS.setO (CS.setO (CS.setOl (CS.setO (CS.setO (CS.setO (CS.setO B a 0 x1) a 1 (s.i 54 + 1)) a 2 x2) a 3 x3) a 0) a 5 0) a 6 0) a 7 0) a 8 0) a 9 (-1)) a 10 (-1)) a 11 (-1)) a 12 0) a 14 (s.i 55)) a g 0 ∧ g 2 = x2 := ⟨_, (((((((((((((((OUV.rf B a).o 0 x1).o 1 _).o 2 x2).o 3 x3).l 0).o 5 0).o 6 0).o 7 0).o 8 0).o 9 (-1)).o 10 (-1)).o 11 (-1)).o 12 0).o 14 _), rfl⟩
  obtain ⟨g, ⟨-, -, b12, -⟩, hg⟩ := z
  show (CS.setO (CS.setO (CS.setO (CS.setO (CS.setO (CS.setO (CS.setO (CS.setO (CS.setO (CS.setOl (CS.setO (CS.setO (CS.setO (CS.setO B a 0 x1) a 1 (s.i 54 + 1)) a 2 x2) a 3 x3) a 0) a 5 0) a 6 0) a 7 0) a 8 0) a 9 (-1)) a 10 (-1)) a 11 (-1)) a 12 0) a 14 (s.i 55)).o a 2 = x2
  rw [b12]
  exact hg
/-- a row more: the depth at which it stands -/
theorem psh_o2 {N a : Nat} {S : CS} {x1 x2 x3 : Int32} {R : Option Nat × CS} (e : f_X6_push N S x1 x2 x3 = some R) (ha : R.1 = some a) : R.2.o a 2 = x2 := by
  unfold f_X6_push at e
  obtain ⟨-, e⟩ := hf_ite e
  rcases hf_oc e with ⟨-, e⟩ | ⟨c, -, e⟩
  · obtain ⟨p, -, e⟩ := hf_bind e
    obtain ⟨-, e⟩ := hf_ite e
    obtain ⟨-, e⟩ := hf_ite e
    obtain ⟨z1, z2⟩ := psh48_o2 e
    rw [z1] at ha
    cases ha
    exact z2
  · obtain ⟨z1, z2⟩ := psh48_o2 e
    rw [z1] at ha
    cases ha
    exact z2
/-- a goal's depth -/
theorem goa47 {N g : Nat} {u : RS} {w : Int32} {n : Int64} {V : Int32 × RS} (h : f_X12_goal N u w n = some V) (hg : (u.i 43).toInt = (g : Int)) : V.2.a 47 g = u.i 52 := by
  unfold f_X12_goal at h
  obtain ⟨-, h⟩ := hf_ite h
  have eg : (u.i 43).toNatClampNeg = g := by
    show (u.i 43).toInt.toNat = g
    omega
  rw [eg] at h
  rw [← Option.some.inj h]
  show (RS.setA (RS.setA (RS.setA (RS.setA (RS.setA (RS.setA (RS.setB (RS.setA u 44 g w) 45 g n) 46 g (-1)) 47 g (u.i 52)) 48 g (-1)) 49 g (-1)) 50 g 0) 51 g 0).a 47 g = u.i 52
  rw [setA_nk (by decide), setA_nk (by decide), setA_nk (by decide), setA_nk (by decide)]
  exact setA_at
/-- a sign that opens, one that closes -/
theorem op_cd {N : Nat} (hN : 1000 ≤ N) {dl : Int32} {S : CS} {s : RS} {R : Unit × CS} {V : Int32 × RS} {c d : Int32} (h : ENV dl S s) (hc : tyR c) (hd : tm c = d) (h6 : ¬ d = 6) (h0 : ¬ c = 0) (e : f_X1_open N S c = some R) (g : f_X12_open N s d = some V) (o : V.1 = 1) : CD1 (-1) (-1) S R.2 ∧ (∀ a b : Int, CT7 a b S R.2) ∧ (∀ c : Int, CD2 c s V.2) ∧ R.2.i 20 = S.i 20 ∧ R.2.i 21 = S.i 21 ∧ V.2.i 20 = s.i 20 := by
  rcases y_open hN h hc hd h6 h0 e g with ⟨o1, -, -⟩ | ⟨o1, o2, o3, o4, o5, o6, o7, -⟩
  · rw [o] at o1
    exact absurd o1 (by decide)
  · exact tok_cd h o3 o5 (ke_X1_open N S c R e) (kre_f_X12_open N s d V g) o7
theorem cl_cd {N : Nat} (hN : 1000 ≤ N) {dl : Int32} {S : CS} {s : RS} {R : Unit × CS} {V : Int32 × RS} {c d : Int32} (h : ENV dl S s) (h1 : SGS S (cnI S).toNat + 1 ≤ sgI S) (hc : tyR c) (hd : tm c = d) (h6 : ¬ d = 6) (h0 : ¬ c = 0) (e : f_X1_close N S c = some R) (g : f_X12_shut N s d = some V) (o : V.1 = 1) : CD1 (-1) (-1) S R.2 ∧ (∀ a b : Int, CT7 a b S R.2) ∧ (∀ c : Int, CD2 c s V.2) ∧ R.2.i 20 = S.i 20 ∧ R.2.i 21 = S.i 21 ∧ V.2.i 20 = s.i 20 := by
  rcases y_close hN h h1 hc hd h6 h0 e g with ⟨o1, -, -⟩ | ⟨o1, o2, o3, o4, o5, o6, o7, -⟩
  · rw [o] at o1
    exact absurd o1 (by decide)
  · exact tok_cd h o3 o5 (ke_X1_close N S c R e) (kre_f_X12_shut N s d V g) o7
end
section
/-! both readers: the code of a while -/
theorem JRW.whi {N : Nat} {A : JBA} {d1 d2 d3 dz : Int32} {U : RS} {B C0 C1 C2 C3 R Y : CS} {b s y0 z1 z2 z3 z5 u q0 : RS} {V : List RVW} {r : RVW} {C4 C6 x9 am : Unit × CS} {z4 z6 : Int32 × RS} {w w' : Int32 × CS} (j1 : JRG A U B b V s [] (JQG U 1264 0 1 (pcC C0) (pcR y0) JQZ) 1 1 C0 y0) (ev2 : ENV d1 C0 y0) (et : f_X0_newTarget N C0 = some w) (et' : f_X0_newTarget N w.2 = some w') (c0 : CD1 (-2) (-2) w'.2 x9.2) (t0 : ∀ a b : Int, CT7 a b w'.2 x9.2) (p0 : x9.2.i 20 = C0.i 20) (q0' : ∀ c : Int, CD2 c y0 q0) (r0 : q0.i 20 = y0.i 20) (n0 : NMV y0 q0) (ev3 : ENV d1 x9.2 q0) (ea : f_X0_aim N x9.2 w.1 = some am) (c1 : CD1 (-1) (-1) am.2 C1) (t1 : ∀ a b : Int, CT7 a b am.2 C1) (p1 : C1.i 20 = am.2.i 20) (q1 : ∀ c : Int, CD2 c q0 z1) (r1 : z1.i 20 = q0.i 20) (n1 : NMV q0 z1) {gf : Nat} (xc : CDE gf U C1 z1 C2 z2) (hgf : (gf = 2 ∧ r.1 7 = 0) ∨ (gf = 4 ∧ ¬ r.1 7 = 0)) (ez : ENV d2 C1 z1) (n2 : NMV z1 z2) (e2 : ENV d2 C2 z2) (c3 : CD1 (-1) (-1) C2 C3) (t3 : ∀ a b : Int, CT7 a b C2 C3) (p3 : C3.i 20 = C2.i 20) (q3 : ∀ c : Int, CD2 c z2 z3) (r3 : z3.i 20 = z2.i 20) (n3 : NMV z2 z3) (e3 : ENV d3 C3 z3) (h3 : 1 ≤ phI z3) (e4 : f_X0_add N C3 31 w'.1 = some C4) (hz : f_X12_emit N z3 13 0 = some z4) (q4 : ∀ c : Int, CD2 c z4.2 z5) (r4 : z5.i 20 = z4.2.i 20) (n4 : NMV z4.2 z5) (n44 : C4.2.i 50 = z4.2.i 38) (ez5 : ENV dz Y z5) (hz5 : 1 ≤ phI z5) (e6 : f_X0_add N C4.2 51 0 = some C6) (hz6 : f_X12_emit N z5 1 0 = some z6) (c5 : CD1 0 0 C6.2 R) (t5 : ∀ a b : Int, CT7 a b C6.2 R) (p5 : R.i 20 = C6.2.i 20) (q5 : ∀ c : Int, CD2 c z6.2 u) (r5 : u.i 20 = z6.2.i 20) (n45 : C6.2.i 50 = z6.2.i 38) (n5 : NMV z6.2 u) (hr : r.v = 205) (rx : r.1 9 = w'.1) (rh : r.1 10 = w.1) (rs : r.2.1 67 = z4.1) (rq : r.2.1 66 = z1.i 20) (r36 : R.i 36 = 1) (lf : LPF s u r.2.2.2) (ro2 : r.1 2 = R.i 38) (rn5 : NT5 (r.1 9) ∧ NT5 (r.1 10)) (l11 : (s.i 11).toInt ≤ (z1.i 11).toInt ∧ (s.i 11).toInt ≤ (u.i 11).toInt) (l19 : (s.i 19).toInt ≤ (z1.i 19).toInt ∧ (s.i 19).toInt ≤ (u.i 19).toInt) (pl : ∀ q ∈ V, q.2.2.1 < r.2.2.1) : JRW A U B b (r :: V) R u := by
  have g44 : (C0.i 44).toInt = (y0.i 11).toInt := by rw [ev2.p44.1]
  have g6 := (i11_hi ev2).2
  have g44' : (x9.2.i 44).toInt = (q0.i 11).toInt := by rw [ev3.p44.1]
  have g6' := (i11_hi ev3).2
  have k44 : (C3.i 44).toInt = (z3.i 11).toInt := by rw [e3.p44.1]
  have k6 := (i11_hi e3).2
  have k20 := e3.p20
  have k20' := ez5.p20
  have w44 : w.2.i 44 = C0.i 44 := by
    unfold f_X0_newTarget at et
    cases et
    rfl
  have j2 := (j1.nt et (by omega) (by omega)).nt et' (by rw [w44]; omega) (by omega)
  have w50 : w'.2.i 50 = C0.i 50 := by
    unfold f_X0_newTarget at et et'
    cases et
    cases et'
    rfl
  have j3 := j2.cod (jsp_tok c0 t0 q0' (w50.trans ev2.2.1.1) n0)
  have a20 : am.2.i 20 = x9.2.i 20 := by
    unfold f_X0_aim at ea
    cases ea
    rfl
  have a50 : am.2.i 50 = x9.2.i 50 := by
    unfold f_X0_aim at ea
    cases ea
    rfl
  have j4 := JRG.aih (W1 := [tv w'.1]) (W2 := []) (K' := fun FC SF nm X ω j Z => (cTg SF w.1).toInt = ((pcC x9.2 : Nat) : Int) ∧ JQG U 1264 0 1 (pcC C0) (pcR y0) JQZ FC SF nm X ω j Z) j3 ea (by omega) (by omega) (fun FC SF nm X ω j Z h k => ⟨h, k⟩)
  have j5 := j4.cod (jsp_tok c1 t1 q1 (a50.trans ev3.2.1.1) n1)
  have pc0 : pcC C1 = pcC C0 := by unfold pcC; rw [p1, a20, p0]
  have pc1 : pcC C1 = pcC x9.2 := by unfold pcC; rw [p1, a20]
  have pr1 : pcR z1 = pcR y0 := by unfold pcR; rw [r1, r0]
  have z20 := ez.p20
  have j6 : JRG A U B b V s [hv w.1, tv w'.1] (JQA U 1264 0 (pcC C1) (pcR z1) (fun FC SF nm X ω j Z => Z ∧ HE5 FC SF U nm X w.1 (z1.i 20) ω j)) (-2) 0 C1 z1 := j5.imp (by omega) (by omega) (fun FC SF nm X ω j Z _ _ _ _ _ r12 k q => by
    refine ⟨k.2 ?_, pcC C1, pcR z1, by rw [pc1]; exact k.1, (Int.toNat_of_nonneg z20.1).symm, by unfold pcC; omega, q 5⟩
    rw [← pc0, ← pr1]
    exact q 1)
  have j7 := j6.cod (jsp_frm xc ez.2.1.1 n2 (by omega) (by omega) (by omega) (by omega) l19.1)
  have j8 := j7.cod (jsp_tok c3 t3 q3 e2.2.1.1 n3)
  have pc3 : pcC C3 = pcC C2 := by unfold pcC; rw [p3]
  have pr3 : pcR z3 = pcR z2 := by unfold pcR; rw [r3]
  have j9 := j8.ons (K' := JQA U 1264 0 (pcC C4.2) (pcR z4.2) (fun FC SF nm X ω j Z => (gf = 4 ∨ PRT FC SF U nm X w'.1 z4.1 ω j) → Z ∧ HE5 FC SF U nm X w.1 (z1.i 20) ω j)) e4 (by omega) (by omega) hz ⟨k20.1, by omega⟩ (fun FC SF nm X ω j Z pq a1 a2 b1 b2 b3 v1 v2 _ hc hh tyc tl hω k gu prt => k (by
    rw [← pc3, ← pr3]
    have g0 := gu 0
    rw [v1, v2] at g0
    have := pq.1
    refine gi_UJz (pq.hc (hc.up (Nat.le_add_right _ _))) pq.2.1 ⟨a1, b1, _, rfl, ?_, ⟨_, by omega, g0⟩⟩
    rcases prt with prt | ⟨pp, qq, w1, w2, w3⟩
    · exact Or.inl prt
    · rw [b2] at w2
      exact Or.inr ⟨pp, qq, _, ⟨by rw [a2]; exact w1, w2⟩, by omega, w3⟩))
  have c0' : CD1 0 0 C4.2 C4.2 := CD1.rf _
  have j10 := j9.cod (jsp_tok c0' (fun _ _ => CT7.rf _ _ _) q4 n44 n4)
  have pr4 : pcR z5 = pcR z4.2 := by unfold pcR; rw [r4]
  rw [← pr4] at j10
  have h44 : (C4.2.i 44).toInt ≤ 900 := by
    unfold f_X0_add at e4
    cases e4
    show (C3.i 44).toInt ≤ 900
    omega
  have j11 := j10.stp (δ' := 2528) e6 h44 (by omega) hz6 ⟨k20'.1, by omega⟩ (by omega)
  have j12 := j11.cod (jsp_tok c5 t5 q5 n45 n5)
  have pc5 : pcC R = pcC C6.2 := by unfold pcC; rw [p5]
  have pr5 : pcR u = pcR z6.2 := by unfold pcR; rw [r5]
  have jl : jlv r.v = 2528 := by rw [hr]; rfl
  refine j12.ps0 ⟨by omega, fun _ => ⟨by omega, by rw [rh]; exact List.mem_cons_of_mem _ List.mem_cons_self⟩, fun y => absurd (hr.symm.trans y) (by decide), by rw [hr]; decide⟩ (Or.inl (by omega)) lf.1 l11.2 l19.2 pl (fun q => ?_) (by rw [hr]; decide) (by rw [hr]; decide) (by rw [hr]; decide) (by rw [hr]; decide) (fun k q => ?_) ?_ (fun _ => lf.gl ro2 rn5 ⟨fun _ => by rw [rq]; exact z20.1, fun y => absurd (hr.symm.trans y) (by decide)⟩ (by rw [hr]; decide)) r36 (fun FC SF nm X G col YJ ω j Z hω r12 hc hh k jr cur => ?_)
  · rcases q with q | q | q | q <;> rw [hr] at q <;> exact absurd q (by decide)
  · unfold rsite at q
    rw [hr] at q
    rcases q with ⟨q, -⟩ | ⟨q, -⟩ | ⟨-, q⟩ | ⟨q, -⟩
    · rcases q with q | q | q <;> exact absurd q (by decide)
    · exact absurd q (by decide)
    · rw [rs] at q
      exact ⟨_, List.mem_cons_self, sv.site.mpr q⟩
    · exact absurd q (by decide)
  · have e1 : rtgs r = [w'.1] := by
      unfold rtgs
      rw [hr, if_neg (by decide), if_pos (by decide), rx]
    have e2 : ptl [sv z4.1, hv w.1, tv w'.1] = [w'.1] := by
      show rtgs (sv z4.1) ++ (rtgs (hv w.1) ++ (rtgs (tv w'.1) ++ [])) = _
      rw [sv.tgs, hv.tgs, tv.tgs]
      rfl
    rw [e1]
    exact List.Perm.of_eq e2.symm
  · rw [jl, pc5, pr5] at cur
    have prt : gf = 4 ∨ PRT FC SF U nm X w'.1 z4.1 ω j := by
      rcases hgf with ⟨-, z⟩ | ⟨z, -⟩
      · have y := (jr.2.2.1 hr).1 z
        rw [rx, rs] at y
        exact Or.inr y
      · exact Or.inl z
    have e9 : ω + (j.l + 2528) - pcC C6.2 = ω + j.l + 2528 - pcC C6.2 := by omega
    have c2 := cur.2
    rw [e9] at c2
    have z := k c2 prt
    refine ⟨z.1, fun _ => ?_, fun q => absurd (hr.symm.trans q) (by decide), fun q => absurd (hr.symm.trans q) (by decide), fun q => absurd (hr.symm.trans q) (by decide), fun q => absurd (hr.symm.trans q) (by decide)⟩
    rw [rh, rq]
    exact z.2
theorem vws.eqf {S R : CS} {s u : RS} {T : Nat} (tb : ∀ j : Nat, (j : Int) < (s.i 38).toInt → u.a 40 j = s.a 40 j) : ∀ (L : List CEL), (∀ y ∈ L, (S.o y.2.1 3).toInt ≤ (s.i 38).toInt) → (∀ c ∈ L, R.o c.2.1 = S.o c.2.1) → (∀ k t : Nat, 66 ≤ k → k ≤ 73 → t < T → u.a k t = s.a k t) → (∀ c ∈ L, ceT c < T) → vws R u L = vws S s L
  | [], _, _, _, _ => rfl
  | c :: L, o3, h, f, t => by
    have ih := vws.eqf tb L (fun d hd => o3 d (List.mem_cons_of_mem _ hd)) (fun d hd => h d (List.mem_cons_of_mem _ hd)) f (fun d hd => t d (List.mem_cons_of_mem _ hd))
    have e1 : vw R u c = vw S s c := by
      unfold vw
      rw [h c List.mem_cons_self]
      have e2 : (fun k : Nat => if 66 ≤ k ∧ k ≤ 73 then u.a k (ceT c) else if 1000 ≤ k ∧ (k : Int) - 1000 < (S.o c.2.1 3).toInt then u.a 40 (k - 1000) else 0) = (fun k : Nat => if 66 ≤ k ∧ k ≤ 73 then s.a k (ceT c) else if 1000 ≤ k ∧ (k : Int) - 1000 < (S.o c.2.1 3).toInt then s.a 40 (k - 1000) else 0) := by
        funext k
        by_cases q : 66 ≤ k ∧ k ≤ 73
        · rw [if_pos q, if_pos q]
          exact f k (ceT c) q.1 q.2 (t c List.mem_cons_self)
        · rw [if_neg q, if_neg q]
          exact vw_40 tb (o3 c List.mem_cons_self) k
      rw [e2]
    show vw R u c :: vws R u L = vw S s c :: vws S s L
    rw [e1, ih]
theorem FRB.fld {s u : RS} {T : Nat} (f : FRB T s u) (k t : Nat) (h1 : 66 ≤ k) (h2 : k ≤ 73) (ht : t < T) : u.a k t = s.a k t := by
  obtain ⟨f0, f1, f2, f3, f4, f5, f6, f7, f8, f9, -⟩ := f t ht
  have : k = 66 ∨ k = 67 ∨ k = 68 ∨ k = 69 ∨ k = 70 ∨ k = 71 ∨ k = 72 ∨ k = 73 := by omega
  rcases this with z | z | z | z | z | z | z | z <;> rw [z] <;> assumption
end
section
/-! places that are good by their own unit -/
theorem UNJ.g5 {FC : Nat → Prop} {s0 : CS} {r0 : RS} {nm : Nat → Nat → Prop} {AL : Als} {p q h w g : Nat} {c : List Ent} (u : UNJ FC s0 r0 nm AL p q h w 5 c) : UNJ FC s0 r0 nm AL p q h w g c := by
  rcases u with u | ⟨hq, u⟩
  · exact Or.inl u
  refine Or.inr ⟨hq, ?_⟩
  rcases u with u | u | u | u | u | u | u | u | u | u | u | u | u | u | u | u | u | u | u | u | u | u | u | u | u | u | u | u | u | u | u | u | u | u | u
  · exact Or.inl u
  · exact Or.inr (Or.inl u)
  · exact Or.inr (Or.inr (Or.inl u))
  · obtain ⟨a1, a2, g', a3, a4⟩ := u
    rcases a4 with a4 | ⟨-, a4, -⟩
    · exact Or.inr (Or.inr (Or.inr (Or.inl ⟨a1, a2, g', a3, Or.inl a4⟩)))
    · exact absurd a4 (by decide)
  · exact Or.inr (Or.inr (Or.inr (Or.inr (Or.inl u))))
  · exact Or.inr (Or.inr (Or.inr (Or.inr (Or.inr (Or.inl u)))))
  · obtain ⟨a1, h', g', a2, a3, a4, a5⟩ := u
    rcases a5 with a5 | ⟨-, a5⟩ | ⟨-, -, a5⟩ | ⟨-, -, a5⟩
    · exact Or.inr (Or.inr (Or.inr (Or.inr (Or.inr (Or.inr (Or.inl ⟨a1, h', g', a2, a3, a4, Or.inl a5⟩))))))
    · exact absurd a5 (by decide)
    · exact absurd a5 (by decide)
    · exact absurd a5 (by decide)
  · exact Or.inr (Or.inr (Or.inr (Or.inr (Or.inr (Or.inr (Or.inr (Or.inl u)))))))
  · obtain ⟨a1, a2, h', a3, a4, a5⟩ := u
    rcases a4 with a4 | a4
    · exact absurd a4 (by decide)
    · exact Or.inr (Or.inr (Or.inr (Or.inr (Or.inr (Or.inr (Or.inr (Or.inr (Or.inl ⟨a1, a2, h', a3, Or.inr a4, a5⟩))))))))
  · exact Or.inr (Or.inr (Or.inr (Or.inr (Or.inr (Or.inr (Or.inr (Or.inr (Or.inr (Or.inl u)))))))))
  · exact absurd u.2.1 (by decide)
  · obtain ⟨a1, h', a3, a4, a5⟩ := u
    rcases a5 with a5 | a5
    · exact absurd a5 (by decide)
    · exact Or.inr (Or.inr (Or.inr (Or.inr (Or.inr (Or.inr (Or.inr (Or.inr (Or.inr (Or.inr (Or.inr (Or.inl ⟨a1, h', a3, a4, Or.inr a5⟩)))))))))))
  · exact Or.inr (Or.inr (Or.inr (Or.inr (Or.inr (Or.inr (Or.inr (Or.inr (Or.inr (Or.inr (Or.inr (Or.inr (Or.inl u))))))))))))
  · exact Or.inr (Or.inr (Or.inr (Or.inr (Or.inr (Or.inr (Or.inr (Or.inr (Or.inr (Or.inr (Or.inr (Or.inr (Or.inr (Or.inl u)))))))))))))
  · exact Or.inr (Or.inr (Or.inr (Or.inr (Or.inr (Or.inr (Or.inr (Or.inr (Or.inr (Or.inr (Or.inr (Or.inr (Or.inr (Or.inr (Or.inl u))))))))))))))
  · exact Or.inr (Or.inr (Or.inr (Or.inr (Or.inr (Or.inr (Or.inr (Or.inr (Or.inr (Or.inr (Or.inr (Or.inr (Or.inr (Or.inr (Or.inr (Or.inl u)))))))))))))))
  · exact Or.inr (Or.inr (Or.inr (Or.inr (Or.inr (Or.inr (Or.inr (Or.inr (Or.inr (Or.inr (Or.inr (Or.inr (Or.inr (Or.inr (Or.inr (Or.inr (Or.inl u))))))))))))))))
  · exact Or.inr (Or.inr (Or.inr (Or.inr (Or.inr (Or.inr (Or.inr (Or.inr (Or.inr (Or.inr (Or.inr (Or.inr (Or.inr (Or.inr (Or.inr (Or.inr (Or.inr (Or.inl u)))))))))))))))))
  · exact Or.inr (Or.inr (Or.inr (Or.inr (Or.inr (Or.inr (Or.inr (Or.inr (Or.inr (Or.inr (Or.inr (Or.inr (Or.inr (Or.inr (Or.inr (Or.inr (Or.inr (Or.inr (Or.inl u))))))))))))))))))
  · exact Or.inr (Or.inr (Or.inr (Or.inr (Or.inr (Or.inr (Or.inr (Or.inr (Or.inr (Or.inr (Or.inr (Or.inr (Or.inr (Or.inr (Or.inr (Or.inr (Or.inr (Or.inr (Or.inr (Or.inl u)))))))))))))))))))
  · exact Or.inr (Or.inr (Or.inr (Or.inr (Or.inr (Or.inr (Or.inr (Or.inr (Or.inr (Or.inr (Or.inr (Or.inr (Or.inr (Or.inr (Or.inr (Or.inr (Or.inr (Or.inr (Or.inr (Or.inr (Or.inl u))))))))))))))))))))
  · exact absurd u.2.2.2.1 (by decide)
  · exact absurd u.2.2.1 (by decide)
  · exact Or.inr (Or.inr (Or.inr (Or.inr (Or.inr (Or.inr (Or.inr (Or.inr (Or.inr (Or.inr (Or.inr (Or.inr (Or.inr (Or.inr (Or.inr (Or.inr (Or.inr (Or.inr (Or.inr (Or.inr (Or.inr (Or.inr (Or.inr (Or.inl u)))))))))))))))))))))))
  · exact Or.inr (Or.inr (Or.inr (Or.inr (Or.inr (Or.inr (Or.inr (Or.inr (Or.inr (Or.inr (Or.inr (Or.inr (Or.inr (Or.inr (Or.inr (Or.inr (Or.inr (Or.inr (Or.inr (Or.inr (Or.inr (Or.inr (Or.inr (Or.inr (Or.inl u))))))))))))))))))))))))
  · exact Or.inr (Or.inr (Or.inr (Or.inr (Or.inr (Or.inr (Or.inr (Or.inr (Or.inr (Or.inr (Or.inr (Or.inr (Or.inr (Or.inr (Or.inr (Or.inr (Or.inr (Or.inr (Or.inr (Or.inr (Or.inr (Or.inr (Or.inr (Or.inr (Or.inr (Or.inl u)))))))))))))))))))))))))
  · exact Or.inr (Or.inr (Or.inr (Or.inr (Or.inr (Or.inr (Or.inr (Or.inr (Or.inr (Or.inr (Or.inr (Or.inr (Or.inr (Or.inr (Or.inr (Or.inr (Or.inr (Or.inr (Or.inr (Or.inr (Or.inr (Or.inr (Or.inr (Or.inr (Or.inr (Or.inr (Or.inl u))))))))))))))))))))))))))
  · exact Or.inr (Or.inr (Or.inr (Or.inr (Or.inr (Or.inr (Or.inr (Or.inr (Or.inr (Or.inr (Or.inr (Or.inr (Or.inr (Or.inr (Or.inr (Or.inr (Or.inr (Or.inr (Or.inr (Or.inr (Or.inr (Or.inr (Or.inr (Or.inr (Or.inr (Or.inr (Or.inr (Or.inl u)))))))))))))))))))))))))))
  · exact Or.inr (Or.inr (Or.inr (Or.inr (Or.inr (Or.inr (Or.inr (Or.inr (Or.inr (Or.inr (Or.inr (Or.inr (Or.inr (Or.inr (Or.inr (Or.inr (Or.inr (Or.inr (Or.inr (Or.inr (Or.inr (Or.inr (Or.inr (Or.inr (Or.inr (Or.inr (Or.inr (Or.inr (Or.inl u))))))))))))))))))))))))))))
  · exact Or.inr (Or.inr (Or.inr (Or.inr (Or.inr (Or.inr (Or.inr (Or.inr (Or.inr (Or.inr (Or.inr (Or.inr (Or.inr (Or.inr (Or.inr (Or.inr (Or.inr (Or.inr (Or.inr (Or.inr (Or.inr (Or.inr (Or.inr (Or.inr (Or.inr (Or.inr (Or.inr (Or.inr (Or.inr (Or.inl u)))))))))))))))))))))))))))))
  · exact Or.inr (Or.inr (Or.inr (Or.inr (Or.inr (Or.inr (Or.inr (Or.inr (Or.inr (Or.inr (Or.inr (Or.inr (Or.inr (Or.inr (Or.inr (Or.inr (Or.inr (Or.inr (Or.inr (Or.inr (Or.inr (Or.inr (Or.inr (Or.inr (Or.inr (Or.inr (Or.inr (Or.inr (Or.inr (Or.inr (Or.inl u))))))))))))))))))))))))))))))
  · exact Or.inr (Or.inr (Or.inr (Or.inr (Or.inr (Or.inr (Or.inr (Or.inr (Or.inr (Or.inr (Or.inr (Or.inr (Or.inr (Or.inr (Or.inr (Or.inr (Or.inr (Or.inr (Or.inr (Or.inr (Or.inr (Or.inr (Or.inr (Or.inr (Or.inr (Or.inr (Or.inr (Or.inr (Or.inr (Or.inr (Or.inr (Or.inl u)))))))))))))))))))))))))))))))
  · exact Or.inr (Or.inr (Or.inr (Or.inr (Or.inr (Or.inr (Or.inr (Or.inr (Or.inr (Or.inr (Or.inr (Or.inr (Or.inr (Or.inr (Or.inr (Or.inr (Or.inr (Or.inr (Or.inr (Or.inr (Or.inr (Or.inr (Or.inr (Or.inr (Or.inr (Or.inr (Or.inr (Or.inr (Or.inr (Or.inr (Or.inr (Or.inr (Or.inl u))))))))))))))))))))))))))))))))
  · exact Or.inr (Or.inr (Or.inr (Or.inr (Or.inr (Or.inr (Or.inr (Or.inr (Or.inr (Or.inr (Or.inr (Or.inr (Or.inr (Or.inr (Or.inr (Or.inr (Or.inr (Or.inr (Or.inr (Or.inr (Or.inr (Or.inr (Or.inr (Or.inr (Or.inr (Or.inr (Or.inr (Or.inr (Or.inr (Or.inr (Or.inr (Or.inr (Or.inr (Or.inl u)))))))))))))))))))))))))))))))))
  · rcases u.1 with ⟨-, z⟩ | ⟨-, z⟩ <;> exact absurd z (by decide)
/-- the places of P may be taken for good, if each is good behind its first unit -/
theorem gu_acc {FC : Nat → Prop} {s0 : CS} {r0 : RS} {nm : Nat → Nat → Prop} {X P : Als} (hX : ∀ (p q h w g : Nat) (c : List Ent), X p q h w g c → g ≤ 1) (hP : ∀ (p q h w g : Nat) (c : List Ent), P p q h w g c → g ≤ 1) (z : ∀ (p q h w g : Nat) (c : List Ent), P p q h w g c → GU FC s0 r0 nm (UN2 X P) p q h w 5 c) : SUB P (GGX FC s0 r0 nm X) := GGX.acc (fun p q h w g c a => by
  rcases z p q h w g c a with z | z | z
  · exact GGX.inn ⟨z.out.1, z.out.2.g5⟩
  · have := hX _ _ _ _ _ _ z
    omega
  · have := hP _ _ _ _ _ _ z
    omega)
/-- what is good, with the flags 0 and 1 -/
def G01 (FC : Nat → Prop) (s0 : CS) (r0 : RS) (nm : Nat → Nat → Prop) (X : Als) : Als := fun p q h w g c => GU FC s0 r0 nm X p q h w g c ∧ g ≤ 1
theorem gu_acc2 {FC : Nat → Prop} {s0 : CS} {r0 : RS} {nm : Nat → Nat → Prop} {X P : Als} (hP : ∀ (p q h w g : Nat) (c : List Ent), P p q h w g c → g ≤ 1) (z : ∀ (p q h w g : Nat) (c : List Ent), P p q h w g c → GU FC s0 r0 nm (UN2 (G01 FC s0 r0 nm X) P) p q h w 5 c) : SUB P (GU FC s0 r0 nm X) := fun p q h w g c a => Or.inl (GGX.mono (fun _ _ _ _ _ _ k => k.1) _ _ _ _ _ _ (gu_acc (fun _ _ _ _ _ _ k => k.2) hP z p q h w g c a))
/-- what was good with the flags 0 and 1 is good also beside P -/
theorem G01.up {FC : Nat → Prop} {s0 : CS} {r0 : RS} {nm : Nat → Nat → Prop} {X P : Als} {p q h w g : Nat} {c : List Ent} (z : GU FC s0 r0 nm X p q h w g c) (l : g ≤ 1) : GU FC s0 r0 nm (UN2 (G01 FC s0 r0 nm X) P) p q h w g c := Or.inr (Or.inl ⟨z, l⟩)
theorem G01.new {FC : Nat → Prop} {s0 : CS} {r0 : RS} {nm : Nat → Nat → Prop} {X P : Als} {p q h w g : Nat} {c : List Ent} (z : P p q h w g c) : GU FC s0 r0 nm (UN2 (G01 FC s0 r0 nm X) P) p q h w g c := Or.inr (Or.inr z)
theorem HRW.m0 {s0 : CS} {r0 : RS} {A B : Als} {e : Ent} {c : List Ent} {W : Nat} (s : S01 A B) : ∀ (n p : Nat) (k : Int32), HRW s0 r0 A e c W n p k → HRW s0 r0 B e c W n p k := by
  intro n
  induction n with
  | zero => intro _ _ h; exact h
  | succ n ih =>
    intro p k h
    obtain ⟨h0, h⟩ := h
    refine ⟨h0, ?_⟩
    rcases h with h | ⟨h1, j, pb, qb, z, l, w, a2, a3, a4, a5, a6, ⟨a7, a8⟩, a9⟩ | ⟨h1, p', h2, h3⟩
    · exact Or.inl h
    · exact Or.inr (Or.inl ⟨h1, j, pb, qb, z, l, w, a2, a3, a4, a5, a6, ⟨s _ _ _ _ _ _ (Nat.zero_le _) a7, a8⟩, ih _ _ a9⟩)
    · exact Or.inr (Or.inr ⟨h1, p', h2, ih _ _ h3⟩)
theorem TYC.m0 {s0 : CS} {r0 : RS} {A B : Als} {W : Nat} (s : S01 A B) : ∀ {c : List Ent}, TYC s0 r0 A W c → TYC s0 r0 B W c
  | [], h => ⟨fun z p q h' w g c hg => s _ _ _ _ _ _ hg (h.1 z p q h' w g c hg), h.2⟩
  | _ :: _, ⟨h1, h2, h3⟩ => ⟨fun z => by
      obtain ⟨n, p, a, b, d⟩ := h1 z
      exact ⟨n, p, a, b, HRW.m0 s n p _ d⟩, fun z => by
      rcases h2 z with h | ⟨p, q, w, a, b, d, f, g⟩
      · exact Or.inl h
      · exact Or.inr ⟨p, q, w, a, b, d, s _ _ _ _ _ _ (Nat.zero_le _) f, g⟩, TYC.m0 s h3⟩
theorem GF1.m0 {FC : Nat → Prop} {s0 : CS} {r0 : RS} {A B : Als} {c : List Ent} {h u : Nat} {T x d : Int32} (s : S01 A B) : GF1 FC s0 r0 A c h T x d u → GF1 FC s0 r0 B c h T x d u := fun ⟨c1, c0, a, b, e, f⟩ => ⟨c1, c0, a, b, e, fun z => by
  obtain ⟨p, q, w, g1, g2, g3⟩ := f z
  exact ⟨p, q, w, g1, s _ _ _ _ _ _ (Nat.zero_le _) g2, g3⟩⟩
theorem GF2.m0 {FC : Nat → Prop} {s0 : CS} {r0 : RS} {A B : Als} {c : List Ent} {h u : Nat} {T d : Int32} (s : S01 A B) : GF2 FC s0 r0 A c h T d u → GF2 FC s0 r0 B c h T d u := fun ⟨c1, a', c0, a, a2, b, e, f⟩ => ⟨c1, a', c0, a, a2, b, e, fun z => by
  obtain ⟨p, q, w, g1, g2, g3⟩ := f z
  exact ⟨p, q, w, g1, s _ _ _ _ _ _ (Nat.zero_le _) g2, g3⟩⟩
section
variable {FC : Nat → Prop} {SF : CS} {U : RS} {nm : Nat → Nat → Prop} {X Y : Als} {G : GHT} {ω h0 : Nat} {c0 : List Ent}
theorem GU2.m0 {p q h w : Nat} {c : List Ent} (s : S01 (GU FC SF U nm X) (GU FC SF U nm Y)) (z : GU2 FC SF U nm X p q h w c) : GU2 FC SF U nm Y p q h w c := ⟨s _ _ _ _ _ _ (Nat.zero_le _) z.1, s _ _ _ _ _ _ (Nat.le_refl _) z.2⟩
theorem PRT.m0 {x y : Int32} {j : JCT} (s : S01 (GU FC SF U nm X) (GU FC SF U nm Y)) (z : PRT FC SF U nm X x y ω j) : PRT FC SF U nm Y x y ω j := by
  obtain ⟨p, q, a, b, d⟩ := z
  exact ⟨p, q, a, b, s _ _ _ _ _ _ (Nat.zero_le _) d⟩
theorem PRB.m0 {x y x' : Int32} {j : JCT} (s : S01 (GU FC SF U nm X) (GU FC SF U nm Y)) (z : PRB FC SF U nm X x y x' ω j) : PRB FC SF U nm Y x y x' ω j := by
  obtain ⟨p, q, p1, a, b, d, e, f⟩ := z
  exact ⟨p, q, p1, a, b, d, e, s _ _ _ _ _ _ (Nat.zero_le _) f⟩
theorem HED.m0 {x y : Int32} {j : JCT} (s : S01 (GU FC SF U nm X) (GU FC SF U nm Y)) (z : HED FC SF U nm X x y ω j) : HED FC SF U nm Y x y ω j := by
  obtain ⟨p, q, a, b, d, e⟩ := z
  exact ⟨p, q, a, b, d, e.m0 s⟩
theorem PRN.m0 {x : Int32} {i : Nat} {j : JCT} (s : S01 (GU FC SF U nm X) (GU FC SF U nm Y)) (z : PRN FC SF U nm X x i ω j) : PRN FC SF U nm Y x i ω j := by
  obtain ⟨p, q, a, b, d⟩ := z
  exact ⟨p, q, a, b, s _ _ _ _ _ _ (Nat.zero_le _) d⟩
theorem TRH.m0 {r : RVW} {j : JCT} (s : S01 (GU FC SF U nm X) (GU FC SF U nm Y)) (z : TRH FC SF U nm X G ω r j) : TRH FC SF U nm Y G ω r j := ⟨fun e he => ⟨fun hk => by
  obtain ⟨n, p, a, b, d⟩ := (z.1 e he).1 hk
  exact ⟨n, p, a, b, HRW.m0 s n p _ d⟩, fun hk => by
  rcases (z.1 e he).2 hk with h | ⟨p, q, w, a, b, d, f, g⟩
  · exact Or.inl h
  · exact Or.inr ⟨p, q, w, a, b, d, s _ _ _ _ _ _ (Nat.zero_le _) f, g⟩⟩, fun h1 h2 => by
  obtain ⟨p, q, a, b, d⟩ := z.2.1 h1 h2
  exact ⟨p, q, a, b, s _ _ _ _ _ _ (Nat.zero_le _) d⟩, fun h1 e he => by
  obtain ⟨n, p, a, b, d, f⟩ := z.2.2.1 h1 e he
  refine ⟨n, p, a, b, HRW.m0 s n p _ d, ?_⟩
  rcases f with h | ⟨p, q, w, a, b, d, f, g⟩
  · exact Or.inl h
  · exact Or.inr ⟨p, q, w, a, b, d, s _ _ _ _ _ _ (Nat.zero_le _) f, g⟩, z.2.2.2⟩
theorem JRH.m0 {col : Nat → Option (Nat × Bool)} {YJ : Nat → List Nat} {r : RVW} {j : JCT} (s : S01 (GU FC SF U nm X) (GU FC SF U nm Y)) (z : JRH FC SF U nm X G col YJ ω r j) : JRH FC SF U nm Y G col YJ ω r j := ⟨fun q => (z.1 q).m0 s, fun q y => (z.2.1 q y).m0 s, fun q => ⟨fun y => ((z.2.2.1 q).1 y).m0 s, (z.2.2.1 q).2.m0 s⟩, fun q => (z.2.2.2.1 q).m0 s, fun q => ⟨fun y => ((z.2.2.2.2.1 q).1 y).m0 s, (z.2.2.2.2.1 q).2.m0 s⟩, fun q => ⟨(z.2.2.2.2.2.1 q).1.m0 s, (z.2.2.2.2.2.1 q).2.m0 s⟩, fun q => s _ _ _ _ _ _ (Nat.zero_le _) (z.2.2.2.2.2.2.1 q), fun q => (z.2.2.2.2.2.2.2.1 q).m0 s, fun q i fy => ⟨fun c => ((z.2.2.2.2.2.2.2.2 q i fy).1 c).m0 s, fun c => ((z.2.2.2.2.2.2.2.2 q i fy).2 c).m0 s⟩⟩
theorem JRS.m0 {col : Nat → Option (Nat × Bool)} {YJ : Nat → List Nat} (s : S01 (GU FC SF U nm X) (GU FC SF U nm Y)) : ∀ (V : List RVW), JRS FC SF U nm X G col YJ ω h0 c0 V → JRS FC SF U nm Y G col YJ ω h0 c0 V
  | [], _ => True.intro
  | _ :: V, z => ⟨z.1.m0 s, JRS.m0 s V z.2⟩
end
/-- do: its row -/
theorem JRW.doo {N : Nat} {A : JBA} {d1 dz : Int32} {e1 : Int} {U : RS} {B C0 R Y : CS} {b s y0 z1 u : RS} {V : List RVW} {r : RVW} {C6 am : Unit × CS} {z6 : Int32 × RS} {w1 w2 w3 : Int32 × CS} {Q1 Q2 : CS} (j1 : JRG A U B b V s [] (JQG U 1264 0 1 (pcC C0) (pcR y0) JQZ) 1 0 C0 y0) (ev2 : ENV d1 C0 y0) (et1 : f_X0_newTarget N C0 = some w1) (et2 : f_X0_newTarget N w1.2 = some w2) (k1 : CD1 0 0 w2.2 Q1) (l1 : ∀ a b : Int, CT7 a b w2.2 Q1) (m1 : Q1.i 20 = w2.2.i 20 ∧ Q1.i 50 = w2.2.i 50 ∧ Q1.i 44 = w2.2.i 44) (et3 : f_X0_newTarget N Q1 = some w3) (k2 : CD1 (-2) e1 w3.2 Q2) (l2 : ∀ a b : Int, CT7 a b w3.2 Q2) (m2 : Q2.i 20 = w3.2.i 20) (he : e1 ≤ -3 ∨ (e1 ≤ -2 ∧ ¬ ALN (R.i 43))) (h44 : (Q2.i 44).toInt ≤ 900) (q1 : ∀ c : Int, CD2 c y0 z1) (r1 : z1.i 20 = y0.i 20) (n1 : NMV y0 z1) (ea : f_X0_aim N Q2 w3.1 = some am) (ez : ENV dz Y z1) (hz1 : 1 ≤ phI z1) (e6 : f_X0_add N am.2 51 0 = some C6) (hz6 : f_X12_emit N z1 1 0 = some z6) (c5 : CD1 0 0 C6.2 R) (t5 : ∀ a b : Int, CT7 a b C6.2 R) (p5 : R.i 20 = C6.2.i 20) (q5 : ∀ c : Int, CD2 c z6.2 u) (r5 : u.i 20 = z6.2.i 20) (n45 : C6.2.i 50 = z6.2.i 38) (n5 : NMV z6.2 u) (hr : r.v = 206) (rx : r.1 9 = w2.1) (rn : r.1 10 = w1.1) (rh : r.1 11 = w3.1) (rq : r.2.1 66 = z6.1) (r36 : R.i 36 = 1) (lf : LPF s u r.2.2.2) (ro2 : r.1 2 = R.i 38) (rn5 : NT5 (r.1 9) ∧ NT5 (r.1 10)) (l11 : (s.i 11).toInt ≤ (u.i 11).toInt) (l19 : (s.i 19).toInt ≤ (u.i 19).toInt) (pl : ∀ q ∈ V, q.2.2.1 < r.2.2.1) : JRW A U B b (r :: V) R u := by
  have g44 : (C0.i 44).toInt = (y0.i 11).toInt := by rw [ev2.p44.1]
  have g6 := (i11_hi ev2).2
  have z20 := ez.p20
  have f1 : w1.2.i 44 = C0.i 44 ∧ w1.2.i 50 = C0.i 50 ∧ w1.2.i 20 = C0.i 20 := by
    unfold f_X0_newTarget at et1
    cases et1
    exact ⟨rfl, rfl, rfl⟩
  have f2 : w2.2.i 44 = w1.2.i 44 ∧ w2.2.i 50 = w1.2.i 50 ∧ w2.2.i 20 = w1.2.i 20 := by
    unfold f_X0_newTarget at et2
    cases et2
    exact ⟨rfl, rfl, rfl⟩
  have f3 : w3.2.i 44 = Q1.i 44 ∧ w3.2.i 50 = Q1.i 50 ∧ w3.2.i 20 = Q1.i 20 := by
    unfold f_X0_newTarget at et3
    cases et3
    exact ⟨rfl, rfl, rfl⟩
  have a20 : am.2.i 20 = Q2.i 20 ∧ am.2.i 44 = Q2.i 44 := by
    unfold f_X0_aim at ea
    cases ea
    exact ⟨rfl, rfl⟩
  have n50 := ev2.2.1.1
  have j2 := (j1.nt et1 (by omega) (by omega)).nt et2 (by rw [f1.1]; omega) (by omega)
  have j3 := j2.cod (jsp_tok k1 l1 (fun _ => CD2.rf _ _) (f2.2.1.trans (f1.2.1.trans n50)) (NMV.rf _))
  have j4 := j3.nt et3 (by rw [m1.2.2, f2.1, f1.1]; omega) (by omega)
  have j5 := j4.cod (jsp_tok k2 l2 q1 (f3.2.1.trans (m1.2.1.trans (f2.2.1.trans (f1.2.1.trans n50)))) n1)
  have e1' : e1 ≤ 50 := by omega
  have j6 := JRG.aih (W1 := []) (W2 := [tv w2.1, tv w1.1]) (K' := fun FC SF nm X ω j Z => (cTg SF w3.1).toInt = ((pcC Q2 : Nat) : Int) ∧ JQG U 1264 0 1 (pcC C0) (pcR y0) JQZ FC SF nm X ω j Z) j5 ea h44 (by omega) (fun FC SF nm X ω j Z h k => ⟨h, k⟩)
  have pq : Q2.i 20 = C0.i 20 := by rw [m2, f3.2.2, m1.1, f2.2.2, f1.2.2]
  have pc1 : pcC am.2 = pcC Q2 := by unfold pcC; rw [a20.1]
  have pc0 : pcC am.2 = pcC C0 := by unfold pcC; rw [a20.1, pq]
  have pr1 : pcR z1 = pcR y0 := by unfold pcR; rw [r1]
  have zz : z6.1 = z1.i 20 := (cd_emit hz6 z20.1 (by omega)).2.1
  have j7 : JRG A U B b V s [hv w3.1, tv w2.1, tv w1.1] (JQA U 1264 0 (pcC am.2) (pcR z1) (fun FC SF nm X ω j Z => Z ∧ HE5 FC SF U nm X w3.1 (z1.i 20) ω j)) (-1) (e1 + 3) am.2 z1 := j6.imp (by omega) (by omega) (fun FC SF nm X ω j Z _ _ _ _ _ r12 k q => by
    refine ⟨k.2 ?_, pcC am.2, pcR z1, by rw [pc1]; exact k.1, (Int.toNat_of_nonneg z20.1).symm, by unfold pcC; omega, q 5⟩
    rw [← pc0, ← pr1]
    exact q 1)
  have j8 := j7.stp (δ' := 2528) e6 (by rw [a20.2]; exact h44) (by omega) hz6 ⟨z20.1, by omega⟩ (by omega)
  have j9 := j8.cod (jsp_tok c5 t5 q5 n45 n5)
  have pc5 : pcC R = pcC C6.2 := by unfold pcC; rw [p5]
  have pr5 : pcR u = pcR z6.2 := by unfold pcR; rw [r5]
  have jl : jlv r.v = 2528 := by rw [hr]; rfl
  refine j9.ps0 ⟨by omega, fun y => by rcases y with y | y <;> rw [hr] at y <;> exact absurd y (by decide), fun _ => by rw [rh]; exact List.mem_cons_self, by rw [hr]; decide⟩ (by rcases he with h | ⟨h, h'⟩; exact Or.inl (by omega); exact Or.inr ⟨by omega, h'⟩) lf.1 l11 l19 pl (fun q => ?_) (by rw [hr]; decide) (by rw [hr]; decide) (by rw [hr]; decide) (by rw [hr]; decide) (fun k q => ?_) ?_ (fun _ => lf.gl ro2 rn5 ⟨fun _ => by rw [rq, zz]; exact z20.1, fun y => absurd (hr.symm.trans y) (by decide)⟩ (by rw [hr]; decide)) r36 (fun FC SF nm X G col YJ ω j Z hω r12 hc hh k jr cur => ?_)
  · rcases q with q | q | q | q <;> rw [hr] at q <;> exact absurd q (by decide)
  · unfold rsite at q
    rw [hr] at q
    rcases q with ⟨q, -⟩ | ⟨q, -⟩ | ⟨q, -⟩ | ⟨q, -⟩
    · rcases q with q | q | q <;> exact absurd q (by decide)
    · exact absurd q (by decide)
    · rcases q with q | q <;> exact absurd q (by decide)
    · rcases q with q | q <;> exact absurd q (by decide)
  · have e1 : rtgs r = [w1.1, w2.1] := by
      unfold rtgs
      rw [hr, if_neg (by decide), if_neg (by decide), if_pos (by decide), rx, rn]
    have e2 : ptl [hv w3.1, tv w2.1, tv w1.1] = [w2.1, w1.1] := by
      show rtgs (hv w3.1) ++ (rtgs (tv w2.1) ++ (rtgs (tv w1.1) ++ [])) = _
      rw [hv.tgs, tv.tgs, tv.tgs]
      rfl
    rw [e1]
    exact (List.Perm.swap w2.1 w1.1 []).trans (List.Perm.of_eq e2.symm)
  · rw [jl, pc5, pr5] at cur
    have e9 : ω + (j.l + 2528) - pcC C6.2 = ω + j.l + 2528 - pcC C6.2 := by omega
    have c2 := cur.2
    rw [e9] at c2
    have z := k c2
    refine ⟨z.1, fun q => absurd (hr.symm.trans q) (by decide), fun _ => ?_, fun q => absurd (hr.symm.trans q) (by decide), fun q => absurd (hr.symm.trans q) (by decide), fun q => absurd (hr.symm.trans q) (by decide)⟩
    rw [rh, rq, zz]
    exact z.2
end
section
/-! both readers: more steps inside a statement -/
theorem pcC.pe {S R : CS} (h : pe R = pe S) : pcC R = pcC S := by unfold pcC; rw [(pe_eq h).1]
theorem pcR.qe {s u : RS} (h : qe u = qe s) : pcR u = pcR s := by unfold pcR; rw [(qe_eq h).1.1]
/-- beside what is known already -/
def JAN (K0 K : JKT) : JKT := fun FC SF nm X ω j Z => K0 FC SF nm X ω j Z ∧ K FC SF nm X ω j Z
theorem JSP.fr {K0 K K' : JKT} {y a e a1 e1 : Int} {U s0 : RS} {S R : CS} {s u : RS} (x : JSP y a e a1 e1 U s0 K K' S s R u) : JSP y a e a1 e1 U s0 (JAN K0 K) (JAN K0 K') S s R u := fun rm => by
  obtain ⟨Ψ, x1, x2, x3, x4, x5, x6⟩ := x rm
  exact ⟨Ψ, x1, x2, x3, x4, x5, fun FC SF nm X ω j Z p1 p2 p3 p4 p5 p6 p7 p8 p9 k => ⟨k.1, x6 FC SF nm X ω j Z p1 p2 p3 p4 p5 p6 p7 p8 p9 k.2⟩⟩
/-- one place before another -/
def JLT (p q : Nat) : JKT := fun _ _ _ _ _ _ _ => p < q
theorem JSP.le {K K' : JKT} {y a e a1 e1 : Int} {U s0 : RS} {S R : CS} {s u : RS} (x : JSP y a e a1 e1 U s0 K K' S s R u) : JSP y a e a1 e1 U s0 K (JAN (JLT (pcC S) (pcC R + 1)) K') S s R u := fun rm => by
  obtain ⟨Ψ, x1, x2, x3, x4, x5, x6⟩ := x rm
  refine ⟨Ψ, x1, x2, x3, x4, x5, fun FC SF nm X ω j Z p1 p2 p3 p4 p5 p6 p7 p8 p9 k => ⟨?_, x6 FC SF nm X ω j Z p1 p2 p3 p4 p5 p6 p7 p8 p9 k⟩⟩
  have := x1.1.1
  show pcC S < pcC R + 1
  unfold pcC
  omega
section
variable {A : JBA} {U : RS} {B : CS} {b : RS} {V0 : List RVW} {s0 : RS} {W : List RVW} {K K' : JKT} {a e : Int} {S : CS} {s u : RS}
/-- the reference alone, no code -/
theorem JRG.se (h : JRG A U B b V0 s0 W K a e S s) (q : qe u = qe s) (nv : NMV s u) : JRG A U B b V0 s0 W K a e S u := by
  have y : JSP (-1) a e 0 0 U s0 K K S s S u := fun _ => ⟨GPS.tt, KD1.rf S, ⟨CT7.rf _ _ S, NK.eq rfl rfl (qe_eq q).1.2.2.2.2.2 nv.1⟩, (CD2.qe (c := (s.i 20).toInt) q).k, SAT.tt _ _ _ _ (CD2.qe (c := 0) q).1.2.2.2.2.1, fun _ nm c _ _ ng => ⟨fun k hk => by
    rw [nv.1] at hk
    rw [nv.2 k hk]
    exact ng.1 k hk, ng.2.1, by rw [(qe_eq q).1.2.2.2.2.2]; exact ng.2.2.1, ng.2.2.2.mv (Int.le_refl _) (CD2.qe (c := 0) q).1.2.2.2.2.1⟩, fun _ _ _ _ _ _ _ _ _ _ _ _ _ _ _ _ k => k⟩
  have z := h.cod y
  rw [Int.add_zero, Int.add_zero] at z
  exact z
/-- the class alone, no code -/
theorem JRG.ce {R : CS} (h : JRG A U B b V0 s0 W K a e S s) (q : pe R = pe S) (i21 : R.i 21 = S.i 21) (a48 : R.a 48 = S.a 48) (a49 : R.a 49 = S.a 49) (i50 : R.i 50 = S.i 50) (i44 : R.i 44 = S.i 44) : JRG A U B b V0 s0 W K a e R s := by
  have c1 : CD1 (-0) (-0) S R := CD1.pe (b := 0) q i21 i50 a48 a49 (by rw [i44]; omega)
  have y : JSP (-1) a e (-0) (-0) U s0 K K S s R s := fun _ => ⟨GPS.tt, c1.k, ⟨CT7.eq (pe_eq q).2.2.2.1, NK.eq a48 a49 rfl rfl⟩, KD2.rf _ _, SAT.tt _ _ _ _ (SLC.eq rfl (Int.le_refl _)), fun _ nm c _ _ ng => ⟨fun k hk => by
    rw [a48, a49]
    exact ng.1 k hk, by rw [c1.2.2.2.2.2.2.1]; exact ng.2.1, ng.2.2.1, ng.2.2.2.mv c1.2.2.2.2.2.1.1 (SLC.eq rfl (Int.le_refl _))⟩, fun _ _ _ _ _ _ _ _ _ _ _ _ _ _ _ _ k => k⟩
  have z := h.cod y
  rw [Int.neg_zero, Int.add_zero, Int.add_zero] at z
  exact z
/-- tokens: m bytes on -/
theorem JRG.tk {R : CS} (m : Int) (h : JRG A U B b V0 s0 W K a e S s) (n50 : S.i 50 = s.i 38) (kp : pj R = pj S) (ke : pe R = pe S) (nv : NMV s u) (ke' : qe u = qe s) (l : (S.i 44).toInt + m ≤ (R.i 44).toInt) : JRG A U B b V0 s0 W K (a - m) (e - m) R u := by
  obtain ⟨-, -, -, -, -, -, -, -, -, -, -, -, -, i50, -, -, -, -, -, -, a48, a49, -, -, -, -, -, i21, -⟩ := pj_eq kp
  have z := h.cod (jsp_tok (CD1.pe (b := m) ke i21 i50 a48 a49 l) (fun a b => CT7.eq (pe_eq ke).2.2.2.1) (fun c => CD2.qe ke') n50 nv)
  exact z
theorem JRG.adv {N : Nat} (hN : 1000 ≤ N) {d : Int32} {R : Unit × CS} (h : JRG A U B b V0 s0 W K a e S s) (ev : ENV d S s) (nz : ¬ S.i 43 = 0) (e1 : f_X9_advance N S = some R) (g : f_X12_next N s = some u) : JRG A U B b V0 s0 W K (a - 1) (e - 1) R.2 u := by
  obtain ⟨v, kq, kp, -, q11, q20, q22, -, -, -⟩ := ev.adv hN nz e1 g
  exact h.tk 1 ev.2.1.1 kp (ke_X9_advance N S R e1) (NMV.tbk (TBK.of kq (by rw [q20]; exact Int.le_refl _) (fun j _ => by rw [q22]))) (kre_f_X12_next N s u g) (by rw [ev.p44.1, v.p44.1]; exact q11)
theorem adw_cd {N : Nat} (hN : 1000 ≤ N) {d : Int32} {S : CS} {s u : RS} {R : Unit × CS} (ev : ENV d S s) (tw : 200 ≤ (S.i 43).toInt) (e1 : f_X9_advance N S = some R) (g : f_X12_next N s = some u) : CD1 (-2) (-2) S R.2 := by
  have nz : ¬ S.i 43 = 0 := fun z => by rw [z] at tw; exact absurd tw (by decide)
  obtain ⟨v, kq, kp, -, q11, q20, q22, -, -, -⟩ := ev.adv hN nz e1 g
  have gain := ((y_adv hN ev.1 e1 g).2.1.gain ev.1.2.2.2.2.2.2.1).2.2.2.2.1 (Or.inl tw)
  obtain ⟨-, -, -, -, -, -, -, -, -, -, -, -, -, i50, -, -, -, -, -, -, a48, a49, -, -, -, -, -, i21, -⟩ := pj_eq kp
  exact CD1.pe (b := 2) (ke_X9_advance N S R e1) i21 i50 a48 a49 gain.2.1
/-- a word has two bytes -/
theorem JRG.adw {N : Nat} (hN : 1000 ≤ N) {d : Int32} {R : Unit × CS} (h : JRG A U B b V0 s0 W K a e S s) (ev : ENV d S s) (tw : 200 ≤ (S.i 43).toInt) (e1 : f_X9_advance N S = some R) (g : f_X12_next N s = some u) : JRG A U B b V0 s0 W K (a - 2) (e - 2) R.2 u := by
  have nz : ¬ S.i 43 = 0 := fun z => by rw [z] at tw; exact absurd tw (by decide)
  obtain ⟨v, kq, kp, -, q11, q20, q22, -, -, -⟩ := ev.adv hN nz e1 g
  have gain := ((y_adv hN ev.1 e1 g).2.1.gain ev.1.2.2.2.2.2.2.1).2.2.2.2.1 (Or.inl tw)
  exact h.tk 2 ev.2.1.1 kp (ke_X9_advance N S R e1) (NMV.tbk (TBK.of kq (by rw [q20]; exact Int.le_refl _) (fun j _ => by rw [q22]))) (kre_f_X12_next N s u g) gain.2.1
theorem JRG.opn {N : Nat} (hN : 1000 ≤ N) {d : Int32} {R : Unit × CS} {V : Int32 × RS} {c c' : Int32} (h : JRG A U B b V0 s0 W K a e S s) (ev : ENV d S s) (hc : tyR c) (hd : tm c = c') (h6 : ¬ c' = 6) (h0 : ¬ c = 0) (e1 : f_X1_open N S c = some R) (g : f_X12_open N s c' = some V) (o : V.1 = 1) : JRG A U B b V0 s0 W K (a - 1) (e - 1) R.2 V.2 := by
  rcases y_open hN ev hc hd h6 h0 e1 g with ⟨o1, -, -⟩ | ⟨-, -, v, kq, kp, -, q11, q20, q22, -⟩
  · rw [o] at o1
    exact absurd o1 (by decide)
  · exact h.tk 1 ev.2.1.1 kp (ke_X1_open N S c R e1) (NMV.tbk (TBK.of kq (by rw [q20]; exact Int.le_refl _) (fun j _ => by rw [q22]))) (kre_f_X12_open N s c' V g) (by rw [ev.p44.1, v.p44.1]; exact q11)
theorem JRG.cls {N : Nat} (hN : 1000 ≤ N) {d : Int32} {R : Unit × CS} {V : Int32 × RS} {c c' : Int32} (h : JRG A U B b V0 s0 W K a e S s) (ev : ENV d S s) (h1 : SGS S (cnI S).toNat + 1 ≤ sgI S) (hc : tyR c) (hd : tm c = c') (h6 : ¬ c' = 6) (h0 : ¬ c = 0) (e1 : f_X1_close N S c = some R) (g : f_X12_shut N s c' = some V) (o : V.1 = 1) : JRG A U B b V0 s0 W K (a - 1) (e - 1) R.2 V.2 := by
  rcases y_close hN ev h1 hc hd h6 h0 e1 g with ⟨o1, -, -⟩ | ⟨-, -, v, kq, kp, -, q11, q20, q22, -⟩
  · rw [o] at o1
    exact absurd o1 (by decide)
  · exact h.tk 1 ev.2.1.1 kp (ke_X1_close N S c R e1) (NMV.tbk (TBK.of kq (by rw [q20]; exact Int.le_refl _) (fun j _ => by rw [q22]))) (kre_f_X12_shut N s c' V g) (by rw [ev.p44.1, v.p44.1]; exact q11)
theorem JRG.ned {N : Nat} (hN : 1000 ≤ N) {d : Int32} {R : Unit × CS} {V : Int32 × RS} {c c' : Int32} (h : JRG A U B b V0 s0 W K a e S s) (ev : ENV d S s) (hc : tyR c) (hd : tm c = c') (h6 : ¬ c' = 6) (h0 : ¬ c = 0) (e1 : f_X1_expect N S c = some R) (g : f_X12_need N s c' = some V) (o : V.1 = 1) : JRG A U B b V0 s0 W K (a - 1) (e - 1) R.2 V.2 := by
  rcases y_need hN ev hc hd h6 h0 e1 g with ⟨o1, -, -⟩ | ⟨-, -, v, kq, kp, -, q11, q20, q22, -⟩
  · rw [o] at o1
    exact absurd o1 (by decide)
  · exact h.tk 1 ev.2.1.1 kp (ke_X1_expect N S c R e1) (NMV.tbk (TBK.of kq (by rw [q20]; exact Int.le_refl _) (fun j _ => by rw [q22]))) (kre_f_X12_need N s c' V g) (by rw [ev.p44.1, v.p44.1]; exact q11)
/-- a formula, beside what is known -/
theorem JRG.frm {d : Int32} {T : Nat} {st : Int32} {g δ k : Nat} {Z K0 : JKT} {R : CS} (h : JRG A U B b V0 s0 W (JAN K0 (JQA U δ k (pcC S) (pcR s) Z)) a e S s) (ev : ENV d S s) (xo : EXO d T st S s R u) (xc : CDE g U S s R u) (la : a ≤ 1) (le : e ≤ 1) (hδ : 1264 ≤ δ) (hk : (s0.i 11).toInt + 2 * (k : Int) ≤ (s.i 11).toInt) (l19 : (s0.i 19).toInt ≤ (s.i 19).toInt) : JRG A U B b V0 s0 W (JAN K0 (JQG U δ (k + 1) g (pcC R) (pcR u) Z)) a (e - 1) R u := by
  have z := h.cod (JSP.fr (K0 := K0) (jsp_frm (Z := Z) xc ev.2.1.1 (NMV.tbk xo.2.2.2.2.1) la le hδ hk l19))
  rw [Int.add_zero] at z
  exact z
theorem JRG.frl {d : Int32} {T : Nat} {st : Int32} {g δ k : Nat} {Z K0 : JKT} {R : CS} (h : JRG A U B b V0 s0 W (JAN K0 (JQA U δ k (pcC S) (pcR s) Z)) a e S s) (ev : ENV d S s) (xo : EXO d T st S s R u) (xc : CDE g U S s R u) (la : a ≤ 1) (le : e ≤ 1) (hδ : 1264 ≤ δ) (hk : (s0.i 11).toInt + 2 * (k : Int) ≤ (s.i 11).toInt) (l19 : (s0.i 19).toInt ≤ (s.i 19).toInt) : JRG A U B b V0 s0 W (JAN (JAN K0 (JLT (pcC S) (pcC R + 1))) (JQG U δ (k + 1) g (pcC R) (pcR u) Z)) a (e - 1) R u := by
  have z := h.cod (JSP.le (JSP.fr (K0 := K0) (jsp_frm (Z := Z) xc ev.2.1.1 (NMV.tbk xo.2.2.2.2.1) la le hδ hk l19)))
  exact z.imp (by omega) (by omega) (fun _ _ _ _ _ _ _ _ _ _ _ _ _ k => ⟨⟨k.2.1, k.1⟩, k.2.2⟩)
/-- an instruction in the reference alone -/
theorem JRG.emt {N : Nat} {o x : Int32} {V : Int32 × RS} (h : JRG A U B b V0 s0 W K a e S s) (hz : f_X12_emit N s o x = some V) (h20 : 0 ≤ (s.i 20).toInt ∧ (s.i 20).toInt < 3000) : JRG A U B b V0 s0 W (fun FC SF nm X ω j Z => (U.a 21 (pcR s) = o ∧ U.a 22 (pcR s) = x ∧ U.a 23 (pcR s) = 0 ∧ (((pcR s : Nat) : Int) < (U.i 20).toInt ∧ (U.i 20).toInt ≤ 3000) ∧ pcR V.2 = pcR s + 1) ∧ K FC SF nm X ω j Z) a e S V.2 := by
  have z := h.cod (jsp_emt (K' := fun FC SF nm X ω j Z => (U.a 21 (pcR s) = o ∧ U.a 22 (pcR s) = x ∧ U.a 23 (pcR s) = 0 ∧ (((pcR s : Nat) : Int) < (U.i 20).toInt ∧ (U.i 20).toInt ≤ 3000) ∧ pcR V.2 = pcR s + 1) ∧ K FC SF nm X ω j Z) (y := -1) hz h20 (Or.inl rfl) (fun FC SF nm X ω j Z q1 q2 q3 q4 q5 q6 _ _ _ _ _ _ k => ⟨⟨q1, q2 rfl, q3, q4, q5⟩, k⟩))
  rw [Int.add_zero, Int.add_zero] at z
  exact z
/-- its site waits -/
theorem JRG.ems {N : Nat} {o x : Int32} {V : Int32 × RS} (h : JRG A U B b V0 s0 W K a e S s) (hz : f_X12_emit N s o x = some V) (h20 : 0 ≤ (s.i 20).toInt ∧ (s.i 20).toInt < 3000) : JRG A U B b V0 s0 (sv V.1 :: W) (fun FC SF nm X ω j Z => (U.a 21 (pcR s) = o ∧ V.1.toNatClampNeg = pcR s ∧ U.a 23 (pcR s) = 0 ∧ (((pcR s : Nat) : Int) < (U.i 20).toInt ∧ (U.i 20).toInt ≤ 3000) ∧ pcR V.2 = pcR s + 1) ∧ K FC SF nm X ω j Z) a e S V.2 := by
  obtain ⟨m1, m2, m3, -⟩ := cd_emit hz h20.1 h20.2
  have z := h.sit (y := V.1) (jsp_emt (K' := fun FC SF nm X ω j Z => (U.a 21 (pcR s) = o ∧ V.1.toNatClampNeg = pcR s ∧ U.a 23 (pcR s) = 0 ∧ (((pcR s : Nat) : Int) < (U.i 20).toInt ∧ (U.i 20).toInt ≤ 3000) ∧ pcR V.2 = pcR s + 1) ∧ K FC SF nm X ω j Z) (y := V.1.toInt) hz h20 (Or.inr rfl) (fun FC SF nm X ω j Z q1 q2 q3 q4 q5 q6 _ _ _ _ _ _ k => ⟨⟨q1, q6, q3, q4, q5⟩, k⟩)) ⟨by rw [m2]; exact Int.le_refl _, by rw [m2]; omega⟩
  rw [Int.add_zero, Int.add_zero] at z
  exact z
/-- a name gets the value on top -/
theorem JRG.sto {N : Nat} {k δ : Nat} {cl sl : Int32} {K0 Z : JKT} {p : Unit × CS} {V : Int32 × RS} (h : JRG A U B b V0 s0 W (JAN K0 (JQG U δ 1 0 (pcC S) (pcR s) Z)) a e S s) (e1 : f_X0_add N S 2 cl = some p) (h44 : (S.i 44).toInt ≤ 900) (ha : a ≤ 200) (hz : f_X12_emit N s 5 sl = some V) (h20 : 0 ≤ (s.i 20).toInt ∧ (s.i 20).toInt < 3000) (hk : (k : Int) < (s.i 38).toInt) (h49 : (S.a 49 k).toInt < 0) (hcl : cl = S.a 48 k) (hsl : sl = s.a 40 k) : JRG A U B b V0 s0 W (JAN (JAN K0 (JLT (pcC S) (pcC p.2))) (JQA U δ 0 (pcC p.2) (pcR V.2) Z)) (a + 1) e p.2 V.2 := by
  have f : p.2.a 48 = S.a 48 ∧ p.2.a 49 = S.a 49 := by
    unfold f_X0_add at e1
    cases e1
    exact ⟨rfl, rfl⟩
  refine h.one e1 h44 ha hz h20 (fun FC SF nm X ω j Zp pq a1 a2 b1 b2 b3 c1 c2 ng hc hh tyc tl hω kk => ⟨⟨kk.1, (by show pcC S < pcC p.2; omega)⟩, fun gu => kk.2 ?_⟩)
  obtain ⟨y1, y2, y3, y4, y5⟩ := (ng.1.1 k hk).1 (by rw [f.2]; exact h49)
  have g0 := gu 0
  rw [c1, c2] at g0
  have p12 := pq.1
  exact gi_UStor (pq.hc (hc.up (Nat.le_add_right _ _))) pq.2.1 ⟨⟨y1, y2, by rw [a2, hcl, ← f.1]; exact y3, by rw [b2, hsl]; exact y4, y5⟩, Or.inl ⟨a1, b1, j.h, rfl, ω + j.l + δ - (pcC S + 1), by omega, g0⟩⟩
/-- a name grows -/
theorem JRG.inc {N : Nat} {k δ : Nat} {cl sl : Int32} {K0 Z : JKT} {p : Unit × CS} {V : Int32 × RS} (h : JRG A U B b V0 s0 W (JAN K0 (JQA U δ 0 (pcC S) (pcR s) Z)) a e S s) (e1 : f_X0_add N S 3 cl = some p) (h44 : (S.i 44).toInt ≤ 900) (ha : a ≤ 200) (hz : f_X12_emit N s 6 sl = some V) (h20 : 0 ≤ (s.i 20).toInt ∧ (s.i 20).toInt < 3000) (hk : (k : Int) < (s.i 38).toInt) (h49 : (S.a 49 k).toInt < 0) (hcl : cl = S.a 48 k) (hsl : sl = s.a 40 k) : JRG A U B b V0 s0 W (JAN (JAN K0 (JLT (pcC S) (pcC p.2))) (JQA U δ 0 (pcC p.2) (pcR V.2) Z)) (a + 1) e p.2 V.2 := by
  have f : p.2.a 48 = S.a 48 ∧ p.2.a 49 = S.a 49 := by
    unfold f_X0_add at e1
    cases e1
    exact ⟨rfl, rfl⟩
  refine h.one e1 h44 ha hz h20 (fun FC SF nm X ω j Zp pq a1 a2 b1 b2 b3 c1 c2 ng hc hh tyc tl hω kk => ⟨⟨kk.1, (by show pcC S < pcC p.2; omega)⟩, fun gu => kk.2 (fun g => ?_)⟩)
  obtain ⟨y1, y2, y3, y4, y5⟩ := (ng.1.1 k hk).1 (by rw [f.2]; exact h49)
  have g0 := gu 0
  rw [c1, c2] at g0
  have p12 := pq.1
  exact gi_UStor (pq.hc hc) pq.2.1 ⟨⟨y1, y2, by rw [a2, hcl, ← f.1]; exact y3, by rw [b2, hsl]; exact y4, y5⟩, Or.inr ⟨a1, b1, ω + j.l + δ - (pcC S + 1), by omega, g0⟩⟩
theorem mem_mis {r : RVW} {x : Int32} {W1 W2 : List RVW} (h : r ∈ W1 ++ W2) : r ∈ W1 ++ sv x :: W2 := by
  rcases List.mem_append.mp h with h | h
  · exact List.mem_append_left _ h
  · exact List.mem_append_right _ (List.mem_cons_of_mem _ h)
theorem mem_mis' {r : RVW} {x : Int32} {W1 W2 : List RVW} (h : r ∈ W1 ++ sv x :: W2) : r ∈ W1 ++ W2 ∨ r = sv x := by
  rcases List.mem_append.mp h with h | h
  · exact Or.inl (List.mem_append_left _ h)
  · rcases List.mem_cons.mp h with h | h
    · exact Or.inr h
    · exact Or.inl (List.mem_append_right _ h)
theorem ptl.mis (x : Int32) : ∀ (W1 W2 : List RVW), ptl (W1 ++ sv x :: W2) = ptl (W1 ++ W2)
  | [], W2 => by
    show rtgs (sv x) ++ ptl W2 = _
    rw [sv.tgs]
    rfl
  | r :: W1, W2 => by
    show rtgs r ++ ptl (W1 ++ sv x :: W2) = rtgs r ++ ptl (W1 ++ W2)
    rw [ptl.mis x W1 W2]
/-- a site that waits is aimed -/
theorem JRG.pat {y v : Int32} {n : Nat} {W1 W2 : List RVW} (h : JRG A U B b V0 s0 (W1 ++ sv y :: W2) K a e S s) (hb : (b.i 20).toInt ≤ y.toInt) (y0 : 0 ≤ y.toInt) (hn : n = y.toNatClampNeg) (hv : (s0.i 20).toInt ≤ y.toInt ∨ ∀ w ∈ V0, ¬ rsite w n) (hd : ∀ w ∈ W1 ++ W2, ¬ rsite w n) (hK : ∀ (FC : Nat → Prop) (SF : CS) (nm : Nat → Nat → Prop) (X : Als) (ω : Nat) (j : JCT) (Z : Prop), U.a 22 n = v → K FC SF nm X ω j Z → K' FC SF nm X ω j Z) : JRG A U B b V0 s0 (W1 ++ W2) K' a e S (RS.setA s 22 n v) := by
  intro crB
  obtain ⟨b1, ⟨b2, n8⟩, b3, b4, Ψ, G, col, YJ, sax, ⟨pin, pin0⟩, tgi, jsi, main⟩ := h crB
  obtain ⟨u, hu⟩ : ∃ u, u = RS.setA s 22 n v := ⟨_, rfl⟩
  rw [← hu]
  have ui : ∀ k : Nat, u.i k = s.i k := by rw [hu]; exact fun _ => rfl
  have ua : ∀ k : Nat, k ≠ 22 → u.a k = s.a k := by rw [hu]; exact fun k hk => setA_nk hk
  have un : u.a 22 n = v := by rw [hu]; exact setA_at
  have ue : ∀ j : Nat, ¬ j = n → u.a 22 j = s.a 22 j := by rw [hu]; exact fun j hj => setA_ne hj
  clear hu
  have ea : (W1 ++ sv y :: W2) ++ V0 = W1 ++ sv y :: (W2 ++ V0) := by
    rw [List.append_assoc]
    rfl
  have eb : (W1 ++ W2) ++ V0 = W1 ++ (W2 ++ V0) := List.append_assoc _ _ _
  have ny : ((n : Nat) : Int) = y.toInt := by rw [hn]; exact clampI y0
  have ns : (n : Int) < (s.i 20).toInt := pin.1 n (Or.inr ⟨sv y, by rw [ea]; exact List.mem_append_right _ List.mem_cons_self, sv.site.mpr ny⟩)
  have cn : col n = none := jsi.1.2.1.1 (sv y) (by rw [ea]; exact List.mem_append_right _ List.mem_cons_self) n (sv.site.mpr ny)
  have nop : ¬ PEN ((W1 ++ W2) ++ V0) col n := fun p => by
    rcases p with p | ⟨q, hq, p⟩
    · exact p cn
    · rcases List.mem_append.mp hq with hq | hq
      · exact hd q hq p
      · rcases hv with hv | hv
        · have := pin0.1 n (Or.inr ⟨q, hq, p⟩)
          omega
        · exact hv q hq p
  have pe1 : ∀ {k : Nat}, PEN ((W1 ++ W2) ++ V0) col k → PEN ((W1 ++ sv y :: W2) ++ V0) col k := fun {k} p => by
    rw [ea]
    rw [eb] at p
    rcases p with p | ⟨q, hq, p⟩
    · exact Or.inl p
    · exact Or.inr ⟨q, mem_mis hq, p⟩
  have pe2 : ∀ {k : Nat}, ¬ k = n → PEN ((W1 ++ sv y :: W2) ++ V0) col k → PEN ((W1 ++ W2) ++ V0) col k := fun {k} hk p => by
    rw [ea] at p
    rw [eb]
    rcases p with p | ⟨q, hq, p⟩
    · exact Or.inl p
    · rcases mem_mis' hq with hq | hq
      · exact Or.inr ⟨q, hq, p⟩
      · rw [hq] at p
        have := sv.site.mp p
        omega
  have pt : ∀ {P : RVW → Prop}, ¬ P (sv y) → ((∃ r ∈ (W1 ++ W2) ++ V0, P r) ↔ ∃ r ∈ (W1 ++ sv y :: W2) ++ V0, P r) := fun {P} hP => by
    rw [ea, eb]
    constructor
    · rintro ⟨r, hr, p⟩
      exact ⟨r, mem_mis hr, p⟩
    · rintro ⟨r, hr, p⟩
      rcases mem_mis' hr with hr | hr
      · exact ⟨r, hr, p⟩
      · rw [hr] at p
        exact absurd p hP
  have pz : ∀ k : Nat, PCZ ((W1 ++ W2) ++ V0) k ↔ PCZ ((W1 ++ sv y :: W2) ++ V0) k := fun k => pt (fun p => absurd p.1 (by rw [sv.v]; decide))
  have py : ∀ k : Nat, PTY ((W1 ++ W2) ++ V0) k ↔ PTY ((W1 ++ sv y :: W2) ++ V0) k := fun k => pt (fun p => absurd p.1 sv.ty)
  have pa : ∀ k : Nat, PCA ((W1 ++ W2) ++ V0) k ↔ PCA ((W1 ++ sv y :: W2) ++ V0) k := fun k => pt (fun p => absurd p.1 sv.ty)
  have mv : ∀ {c : Int} {z : RS}, c ≤ (n : Int) → KD2 c z s → KD2 c z u := fun {c z} lc k => ⟨⟨by rw [ui]; exact k.1.1, by rw [ui]; exact k.1.2.1, by rw [ui]; exact k.1.2.2.1, by rw [ui]; exact k.1.2.2.2.1, fun q => by
    have z9 := k.1.2.2.2.2 q
    unfold SLO at z9 ⊢
    rw [ui, ui]
    exact z9⟩, fun j hj => by
    rw [ua 21 (by decide), ua 23 (by decide), ue j (by omega)]
    exact k.2.1 j hj, fun j hj => by
    rw [ua 25 (by decide), ua 26 (by decide), ua 27 (by decide), ua 28 (by decide)]
    exact k.2.2.1 j hj, fun j hj => by
    rw [ua 30 (by decide), ua 31 (by decide), ua 32 (by decide)]
    exact k.2.2.2.1 j hj, fun j hj => by
    rw [ua 34 (by decide), ua 35 (by decide), ua 36 (by decide), ua 37 (by decide)]
    exact k.2.2.2.2 j hj⟩
  have jsj : JSJ Ψ (W1 ++ W2) V0 col YJ b s0 u := by
    obtain ⟨j1, ⟨j2, j3, j4⟩, j5, j6⟩ := jsi.1
    rw [sv.rm W1 W2] at j1 j6
    refine ⟨j1, ⟨fun r hr k q => j2 r ?_ k q, j3, fun w hw => j4 w (mem_mis hw)⟩, fun j hj => ?_, fun w w1 w2 => by rw [ua 31 (by decide)]; exact j6 w w1 w2⟩
    · rw [ea]
      rw [eb] at hr
      exact mem_mis hr
    · rw [ue j (fun z => hj (by rw [z]; exact cn))]
      exact j5 j hj
  have swt : SWT (b.i 24).toInt G V0 S u := by
    refine ⟨jsi.2.2.2.1.mv (Int.le_refl _) (Int.le_refl _) (fun _ _ => rfl) (by rw [ui]; exact Int.le_refl _) (fun j _ => by
      rw [ua 25 (by decide), ua 26 (by decide), ua 27 (by decide), ua 28 (by decide)]
      exact ⟨rfl, rfl, rfl, rfl⟩) (fun r hr z => ue _ (fun e9 => ?_)) (fun r hr z => by rw [ua 31 (by decide)]) (fun r hr z => by rw [ua 30 (by decide)]), jsi.2.2.2.2.mv (by rw [ui]; exact Int.le_refl _) (by rw [ui]; exact Int.le_refl _)⟩
    have rs := rsite.h8 z ((jsi.2.2.2.2 r hr).1 z).1
    rw [e9] at rs
    rcases hv with w | w
    · have := pin0.1 n (Or.inr ⟨r, hr, rs⟩)
      omega
    · exact w r hr rs
  have b4' : KDC s0 u := ⟨⟨by rw [ui]; exact b4.1.1, by rw [ui]; exact b4.1.2.1, by rw [ui]; exact b4.1.2.2.1, by rw [ui]; exact b4.1.2.2.2.1, fun q => by
    have z9 := b4.1.2.2.2.2 q
    unfold SLO at z9 ⊢
    rw [ui, ui]
    exact z9⟩, True.intro⟩
  refine ⟨b1, ⟨b2, n8.nk (NK.eq rfl rfl (ui 52) (ui 38))⟩, mv (by omega) b3, b4', Ψ, G, col, YJ, ?_, ⟨⟨fun k q => by rw [ui]; exact pin.1 k (pe1 q), fun k q => by rw [ui]; exact pin.2.1 k ((pz k).mp q), fun k q => by rw [ui]; exact pin.2.2.1 k ((py k).mp q), fun k q => by rw [ui]; exact pin.2.2.2 k ((pa k).mp q)⟩, pin0⟩, ?_, ⟨jsj, jsi.2.1, fun r hr => jsi.2.2.1 r (by rw [ea]; rw [eb] at hr; exact mem_mis hr), swt⟩, ?_⟩
  · intro sl
    have z := (SAX.mo (fun k q => (py k).mp q) (fun k q => (pa k).mp q) sax) sl
    unfold SLO GHM at z ⊢
    rw [ui 42, ui 20, ui 29]
    exact z
  · unfold TGI at tgi ⊢
    rw [ea, ptl.mis] at tgi
    rw [eb]
    exact tgi
  intro FC SF nm X h0 ω c0 psi ng0 hc0 hh0 hω
  obtain ⟨⟨ng, hc, hh, wn⟩, mn⟩ := main FC SF nm X h0 ω c0 psi ng0 hc0 hh0 hω
  refine ⟨⟨⟨⟨fun k hk => ?_, ng.1.2.1, by rw [ui]; exact ng.1.2.2.1, ng.1.2.2.2.mv (Int.le_refl _) (SLC.eq (ui 42) (by rw [ui]; exact Int.le_refl _))⟩, ng.2⟩, hc, hh, wn.mv (Int.le_refl _) (fun r hr _ => mem_mis hr)⟩, fun fc fg hA tyc jr => ?_⟩
  · rw [ui] at hk
    rw [ua 40 (by decide)]
    exact ng.1.1 k hk
  · obtain ⟨g1, g4, g5, g6, g7⟩ := fg
    have un' : U.a 22 n = v := ((g4 n (by omega) (by rw [ui]; exact ns)).2.1 nop).trans un
    refine hK FC SF nm X ω _ _ un' (mn (fc.pl (fun z hz => by rw [ea, ptl.mis]; rw [eb] at hz; exact hz)) ⟨by rw [ui] at g1; exact g1, fun j j1 j2 => ?_, fun j j1 j2 => ?_, fun j j1 j2 q => ?_, fun j j1 j2 => ?_⟩ hA tyc jr)
    · have z := g4 j j1 (by rw [ui]; exact j2)
      rw [ua 21 (by decide), ua 23 (by decide)] at z
      refine ⟨z.1, fun q => ?_, fun q => z.2.2 (fun p => q ((pt (P := fun r => (r.v = 218 ∨ r.v = 995) ∧ (j : Int) = (r.2.1 66).toInt) (fun p => absurd p.1 (by rw [sv.v]; decide))).mp p))⟩
      have jn : ¬ j = n := fun e9 => q (by rw [e9]; exact Or.inr ⟨sv y, by rw [ea]; exact List.mem_append_right _ List.mem_cons_self, sv.site.mpr ny⟩)
      exact (z.2.1 (fun p => q (pe1 p))).trans (ue j jn)
    · have z := g5 j j1 (by rw [ui]; exact j2)
      rw [ua 25 (by decide), ua 26 (by decide), ua 27 (by decide), ua 28 (by decide)] at z
      exact ⟨z.1, z.2.1, fun q => z.2.2.1 (fun p => q ((pz j).mp p)), z.2.2.2⟩
    · have z := g6 j j1 (by rw [ui]; exact j2) (fun p => q ((py j).mp p))
      rw [ua 30 (by decide), ua 31 (by decide), ua 32 (by decide)] at z
      exact z
    · have z := g7 j j1 (by rw [ui]; exact j2)
      rw [ua 34 (by decide), ua 35 (by decide), ua 36 (by decide), ua 37 (by decide)] at z
      exact ⟨z.1, z.2.1, z.2.2.1, fun q => z.2.2.2 (fun p => q ((pa j).mp p))⟩
end
end
section
/-! both readers: a name is told inside a statement -/
theorem see_cd2 {N : Nat} {s V : RS} {l : Int64} {y : Int32} {z : Int32 × RS} (hz : f_X12_see N s l y = some z) (k3 : CD2 (z.2.i 20).toInt z.2 V) (v42 : V.i 42 = z.2.i 42 ∧ (z.2.i 20).toInt + 1 ≤ (V.i 20).toInt) (h20 : (s.i 20).toInt ≤ 2900) : CD2 (s.i 20).toInt s V := by
  obtain ⟨g1, g2, g3⟩ := see_cd hz
  obtain ⟨⟨z0, z9⟩, zi38, zi, za, -, -, zr⟩ := y_see hz
  have z20 : z.2.i 20 = s.i 20 := zi 20 (by decide) (by decide)
  have k3' := k3.2
  rw [z20] at k3'
  refine ⟨⟨by rw [← z20]; exact k3.1.1, ?_, ?_, ?_, fun sl => ?_, ?_⟩, fun j hj => ?_, fun j hj => ?_, fun j hj => ?_, fun j hj => ?_⟩
  · rw [← zi 24 (by decide) (by decide)]
    exact k3.1.2.1
  · rw [← zi 29 (by decide) (by decide)]
    exact k3.1.2.2.1
  · rw [← zi 33 (by decide) (by decide)]
    exact k3.1.2.2.2.1
  · have s1 : (s.i 42 + 1).toInt = (s.i 42).toInt + 1 := ad1 sl.1 (by have := sl.2; omega)
    have v2 := v42.2
    rw [z20] at v2
    refine ⟨by rw [v42.1, g2, s1]; omega, by rw [v42.1, g2, s1]; have := sl.1; omega, by rw [v42.1, g2, s1]; have := sl.2; omega⟩
  · rw [← zi 52 (by decide) (by decide)]
    exact k3.1.2.2.2.2.2
  · rw [← za 21 (by decide) (by decide), ← za 22 (by decide) (by decide), ← za 23 (by decide) (by decide)]
    exact k3'.1 j hj
  · rw [← za 25 (by decide) (by decide), ← za 26 (by decide) (by decide), ← za 27 (by decide) (by decide), ← za 28 (by decide) (by decide)]
    exact k3'.2.1 j (by rw [zi 24 (by decide) (by decide)]; exact hj)
  · rw [← za 30 (by decide) (by decide), ← za 31 (by decide) (by decide), ← za 32 (by decide) (by decide)]
    exact k3'.2.2.1 j (by rw [zi 29 (by decide) (by decide)]; exact hj)
  · rw [← za 34 (by decide) (by decide), ← za 35 (by decide) (by decide), ← za 36 (by decide) (by decide), ← za 37 (by decide) (by decide)]
    exact k3'.2.2.2 j (by rw [zi 33 (by decide) (by decide)]; exact hj)
/-- the new name's cell and slot belong together -/
def GNM (x y : Int32) : GPS := fun _ nm => ∃ a b : Nat, x.toInt = (a : Int) ∧ y.toInt = (b : Int) ∧ nm a b
theorem see_sat {S R : CS} {s V : RS} {x y : Int32} (c0 : 0 ≤ (S.i 23).toInt) (ex : x.toInt = (S.i 23).toInt) (ey : y = s.i 42) (lR : (S.i 23).toInt + 1 ≤ (R.i 23).toInt) (hV : SLO s → (V.i 42).toInt = (s.i 42).toInt + 1 ∧ SLO V) : SAT (GNM x y) S s R V := fun sl => by
  obtain ⟨V42, slV⟩ := hV sl
  have ca : ((x.toNatClampNeg : Nat) : Int) = x.toInt := clampI (by omega)
  have cb : ((y.toNatClampNeg : Nat) : Int) = y.toInt := clampI (by rw [ey]; exact sl.1)
  have eb : y.toInt = (s.i 42).toInt := by rw [ey]
  refine ⟨slV, fun _ => True, fun k l => k = x.toNatClampNeg ∧ l = y.toNatClampNeg, ⟨fun k l h => ?_, fun c l c' l' h h' => ?_⟩, fun FC nm g => ⟨_, _, ca.symm, cb.symm, (g.2 _ _ (Or.inl ⟨by omega, by omega⟩)).mpr ⟨rfl, rfl⟩⟩⟩
  · obtain ⟨h1, h2⟩ := h
    rw [h1, h2]
    exact ⟨⟨by omega, by omega⟩, by omega, by omega⟩
  · exact ⟨fun _ => h.2.trans h'.2.symm, fun _ => h.1.trans h'.1.symm⟩
theorem NMH.tel {nm : Nat → Nat → Prop} {c : List Ent} {S R : CS} {s V : RS} {x y : Int32} (ng : NMH nm c S s) (hn : ∃ a b : Nat, x.toInt = (a : Int) ∧ y.toInt = (b : Int) ∧ nm a b) (n50 : S.i 50 = s.i 38) (s0 : 0 ≤ (s.i 38).toInt) (R48 : ∀ k : Nat, (k : Int) < (S.i 50).toInt → R.a 48 k = S.a 48 k ∧ R.a 49 k = S.a 49 k) (Rn : R.a 48 (S.i 50).toNatClampNeg = x ∧ R.a 49 (S.i 50).toNatClampNeg = -1) (R38 : R.i 38 = S.i 38) (V38 : (V.i 38).toInt = (s.i 38).toInt + 1) (V40 : ∀ j : Nat, (j : Int) < (s.i 38).toInt → V.a 40 j = s.a 40 j) (Vn : V.a 40 (s.i 38).toNatClampNeg = y) (V52 : V.i 52 = s.i 52) (nc : NCB c R V) : NMH nm c R V := by
  obtain ⟨a, b, y1, y2, y3⟩ := hn
  have ck : (((s.i 38).toNatClampNeg : Nat) : Int) = (s.i 38).toInt := clampI s0
  refine ⟨fun k hk => ?_, by rw [R38]; exact ng.2.1, by rw [V52]; exact ng.2.2.1, nc⟩
  rw [V38] at hk
  by_cases q : (k : Int) < (s.i 38).toInt
  · obtain ⟨x1, x2⟩ := R48 k (by rw [n50]; exact q)
    rw [x1, x2, V40 k q]
    exact ng.1 k q
  · have ek : k = (s.i 38).toNatClampNeg := by omega
    rw [n50] at Rn
    rw [ek, Rn.1, Rn.2, Vn]
    have em : (-1 : Int32).toInt = -1 := by decide
    refine ⟨fun _ => ⟨a, b, y1, y2, y3⟩, fun z => ?_⟩
    rw [em] at z
    omega
section
variable {A : JBA} {U : RS} {B : CS} {b : RS} {V0 : List RVW} {s0 : RS} {W : List RVW} {a e : Int} {S : CS} {s : RS}
/-- a name is told and gets the value on top -/
theorem JRG.tel {N : Nat} {d : Int32} {δ : Nat} {K0 Z : JKT} {l : Int64} {x9 : Int32 × CS} {z V : Int32 × RS} {p : Unit × CS} (h : JRG A U B b V0 s0 W (JAN K0 (JQG U δ 1 0 (pcC S) (pcR s) Z)) a e S s) (hb : (b.i 38).toInt ≤ (s.i 38).toInt) (ev : ENV d S s) (h20 : (s.i 20).toInt ≤ 2900) (e9 : f_X7_tell N S l = some x9) (hz : f_X12_see N s l 0 = some z) (ea : f_X0_add N x9.2 2 x9.1 = some p) (he : f_X12_emit N z.2 5 z.1 = some V) (la : a ≤ 100) (le : e ≤ 100) : JRG A U B b V0 s0 W (JAN (JAN K0 (JLT (pcC S) (pcC p.2))) (JQA U δ 0 (pcC p.2) (pcR V.2) Z)) (a + 1) (e + 2) p.2 V.2 := by
  refine h.codT (t := True) (fun _ => hb) (fun rm => ?_)
  obtain ⟨⟨r0, r1⟩, r2, r3, r4, r5⟩ := rm
  have n50 := ev.2.1.1
  have hk8 := nms_hi ev
  have g44 : (S.i 44).toInt = (s.i 11).toInt := by rw [ev.p44.1]
  have g6 := (i11_hi ev).2
  have h50 : 0 ≤ (S.i 50).toInt ∧ (S.i 50).toInt < 128 := by rw [n50]; exact ⟨by omega, by omega⟩
  obtain ⟨d1, d2, d3, d4, d5, d6, d7, d8, d9, d10⟩ := cd_tell e9 h50.1 h50.2 r4 (by omega)
  obtain ⟨g1, g2, g3⟩ := see_cd hz
  obtain ⟨⟨z0, z9⟩, zi38, zi, za, -, -, zr⟩ := y_see hz
  have i20 : (x9.2.i 20).toInt = (S.i 20).toInt := by rw [d5]
  obtain ⟨c1, c2, ⟨c3, c3'⟩, c4, c5, c6⟩ := cd_add ea (by omega) (by omega)
  have z20 : z.2.i 20 = s.i 20 := zi 20 (by decide) (by decide)
  have p20 := ev.p20
  obtain ⟨m1, m2, m3, m4, m5, m6⟩ := cd_emit he (by rw [z20]; exact p20.1) (by rw [z20]; omega)
  have f1 : p.2.a 48 = x9.2.a 48 ∧ p.2.a 49 = x9.2.a 49 ∧ p.2.i 38 = x9.2.i 38 ∧ p.2.i 23 = x9.2.i 23 := by
    unfold f_X0_add at ea
    cases ea
    exact ⟨rfl, rfl, rfl, rfl⟩
  have f2 : V.2.i 38 = z.2.i 38 ∧ V.2.a 40 = z.2.a 40 ∧ V.2.i 52 = z.2.i 52 ∧ V.2.i 42 = z.2.i 42 := by
    unfold f_X12_emit f_X12_emit_21 at he
    by_cases c : (3000 : Int32) ≤ z.2.i 20
    · have e3 : (3000 : Int32).toInt = 3000 := by decide
      have := le_int c
      rw [z20] at this
      omega
    rw [if_neg c] at he
    obtain ⟨-, he⟩ := hf_ite he
    cases he
    exact ⟨rfl, rfl, rfl, rfl⟩
  have cV : CD2 (s.i 20).toInt s V.2 := see_cd2 hz m1 ⟨f2.2.2.2, by omega⟩ h20
  have cR : CD1 1 2 S p.2 := (d1.tr c1).wk (by omega) (by omega)
  have pS : ((pcC S : Nat) : Int) = (S.i 20).toInt := Int.toNat_of_nonneg r0
  have pc9 : pcC x9.2 = pcC S := by unfold pcC; rw [d5]
  have pr9 : pcR z.2 = pcR s := by unfold pcR; rw [z20]
  have ps : ((pcR s : Nat) : Int) = (s.i 20).toInt := Int.toNat_of_nonneg p20.1
  have pcp : pcC p.2 = pcC S + 1 := by
    unfold pcC
    rw [c2, d5]
    omega
  have prV : pcR V.2 = pcR s + 1 := by
    unfold pcR
    rw [m3, z20]
    have := p20.1
    omega
  rw [pc9] at c3 c3'
  rw [pr9] at m4 m5
  refine ⟨GNM x9.1 z.1, cR.k, ⟨(CT7.eq d4).tr (CT7.eq c4), NK.of cR cV n50 (Or.inr True.intro)⟩, cV.k, see_sat r4 (by rw [d2]) g1 (by rw [f1.2.2.2]; omega) (fun sl => ?_), fun FC nm c ps' _ ng => ng.tel ps' n50 z0 (fun k hk => ?_) ⟨by rw [f1.1, d9, d2], by rw [f1.2.1, d10]⟩ (cR.2.2.2.2.2.2.1) (by rw [f2.1, zi38, ad1 z0 (by omega)]) (fun j hj => by rw [f2.2.1]; exact (zr j hj).2.1) (by rw [f2.2.1, g3, g1]) (by rw [f2.2.2.1, zi 52 (by decide) (by decide)]) (ng.2.2.2.mv cR.2.2.2.2.2.1.1 cV.1.2.2.2.2.1), fun FC SF nm X ω j Zp ps' fc fg ng hc hh tyc tl hω kk => ⟨⟨kk.1, (by show pcC S < pcC p.2; omega)⟩, fun gu => kk.2 ?_⟩⟩
  · have s1 : (s.i 42 + 1).toInt = (s.i 42).toInt + 1 := ad1 sl.1 (by have := sl.2; omega)
    exact ⟨by rw [f2.2.2.2, g2, s1], (cV.1.2.2.2.2.1 sl).2⟩
  · rw [f1.1, f1.2.1]
    exact d1.2.2.2.2.1 k hk
  · have f := fc.2.1 (pcC S) (by omega) (by rw [c2, i20]; omega)
    have u := fg.2.1 (pcR s) (by omega) (by rw [m3, z20]; omega)
    have f1' := fg.1
    obtain ⟨y1, y2, y3, y4, y5⟩ := ps'
    have g0 := gu 0
    rw [pcp, prV] at g0
    have r12 := fc.1.2
    rw [c2] at r12
    have pq : PQX SF U (pcC S) (pcR s) := ⟨by omega, by have := f1'.2.1; rw [m3, z20] at this; omega, f1'.2.2⟩
    exact gi_UStor (pq.hc (hc.up (Nat.le_add_right _ _))) pq.2.1 ⟨⟨y1, y2, by rw [f.2, c3']; exact y3, by rw [u.2.1 (by omega), m5]; exact y4, y5⟩, Or.inl ⟨by rw [f.1]; exact c3, by rw [u.1]; exact m4, j.h, rfl, ω + j.l + δ - (pcC S + 1), by omega, g0⟩⟩
end
/-- cells that wait for their row -/
def cv (x y : Int32) : RVW := (fun k => if k = 0 then 996 else if k = 9 then x else y, fun _ => 0, 0, 0)
theorem cv.v {x y : Int32} : (cv x y).v = 996 := rfl
theorem cv.site {x y : Int32} {k : Nat} : ¬ rsite (cv x y) k := fun h => by
  rcases h with ⟨h, -⟩ | ⟨h, -⟩ | ⟨h, -⟩ | ⟨h, -⟩
  · rcases h with h | h | h <;> exact absurd h (by rw [cv.v]; decide)
  · exact absurd h (by rw [cv.v]; decide)
  · rcases h with h | h <;> exact absurd h (by rw [cv.v]; decide)
  · rcases h with h | h <;> exact absurd h (by rw [cv.v]; decide)
theorem cv.ty {x y : Int32} : ¬ isTyv (cv x y) := fun e => by
  rcases e with z | z | z | z <;> exact absurd z (by rw [cv.v]; decide)
theorem cv.tgs {x y : Int32} : rtgs (cv x y) = [] := by
  unfold rtgs
  rw [cv.v, if_neg (by decide), if_neg (by decide), if_neg (by decide), if_neg (by decide), if_neg (by decide)]
/-- a row of values may be opened -/
def JRO (x y : Int32) : JKT := fun _ _ nm _ _ j _ => 0 ≤ x.toInt ∧ HC0 nm j.h ((4, j.h, x.toNatClampNeg, y.toNatClampNeg, 0, 0, 0) :: j.c)
theorem HC0.row {nm : Nat → Nat → Prop} {h x y : Nat} {c : List Ent} (z : HC0 nm h c) (g : ∀ k : Nat, x ≤ k → k < x + 2 + y → k < 720 ∧ (∀ l : Nat, ¬ nm k l) ∧ ∀ e ∈ c, ¬ cel e k) : HC0 nm h ((4, h, x, y, 0, 0, 0) :: c) := by
  obtain ⟨z1, z2, z3, z4⟩ := z
  refine ⟨⟨fun k q => ?_, fun l q => ?_, z1⟩, z2, z3, fun e he => ?_⟩
  · rcases q with ⟨q, -⟩ | ⟨-, q1, q2⟩
    · exact absurd (show (4 : Nat) = 2 from q) (by decide)
    · exact g k q1 q2
  · exact absurd (show (4 : Nat) = 2 from q.1) (by decide)
  · rcases List.mem_cons.mp he with rfl | he
    · exact Nat.le_refl _
    · exact z4 e he
/-- an entry more: the names -/
theorem NMH.push {nm : Nat → Nat → Prop} {c : List Ent} {S R : CS} {s u : RS} {e : Ent} (ng : NMH nm c S s) (a48 : R.a 48 = S.a 48) (a49 : R.a 49 = S.a 49) (i38 : u.i 38 = s.i 38) (a40 : u.a 40 = s.a 40) (d38 : (R.i 38).toInt = (S.i 38).toInt + (if e.k ≤ 3 then 1 else 0)) (d52 : (u.i 52).toInt = (s.i 52).toInt + 1) (l19 : (frs (e :: c) : Int) ≤ (u.i 19).toInt) (nc : NCB (e :: c) R u) : NMG nm (e :: c) R u := by
  refine ⟨fun k hk => ?_, ?_, ?_, l19, nc⟩
  · rw [i38] at hk
    rw [a48, a49, a40]
    obtain ⟨n1, n2⟩ := ng.1 k hk
    exact ⟨n1, fun z => by
      obtain ⟨l1, e', l0, he, z⟩ := n2 z
      exact ⟨e :: l1, e', l0, by rw [he]; rfl, z⟩⟩
  · have z := ng.2.1
    rw [d38, ← z]
    show ((frs c + (if e.k ≤ 3 then 1 else 0) : Nat) : Int) = _
    by_cases q : e.k ≤ 3
    · rw [if_pos q, if_pos q]
      omega
    · rw [if_neg q, if_neg q]
      omega
  · have z := ng.2.2.1
    rw [d52, ← z]
    show ((c.length + 1 : Nat) : Int) = _
    omega
/-- no name has these cells -/
def GNC (x n : Int) : GPS := fun _ nm => ∀ k l : Nat, x ≤ (k : Int) → (k : Int) < x + n → ¬ nm k l
section
variable {A : JBA} {U : RS} {B : CS} {b : RS} {V0 : List RVW} {s0 : RS} {W : List RVW} {K : JKT} {a e : Int} {S : CS} {s : RS}
/-- new cells -/
theorem JRG.ncl {N : Nat} {n : Int32} {w : Int32 × CS} (h : JRG A U B b V0 s0 W K a e S s) (e1 : f_X0_newCells N S n = some w) (h2 : 2 ≤ n.toInt) (he : e + 2 * n.toInt ≤ 200) (hn : n.toInt ≤ 1000) (h44 : (S.i 44).toInt ≤ 900) : JRG A U B b V0 s0 (cv w.1 (n - 2) :: W) (fun FC SF nm X ω j Z => w.1.toInt + n.toInt ≤ 720 ∧ JRO w.1 (n - 2) FC SF nm X ω j Z ∧ K FC SF nm X ω j Z) a (e + 2 * n.toInt) w.2 s := by
  intro crB
  obtain ⟨b1, ⟨b2, n8⟩, b3, b4, Ψ, G, col, YJ, sax, ⟨pin, pin0⟩, tgi, jsi, main⟩ := h crB
  obtain ⟨r1, r2, r3, r4, r5⟩ := crB.rms b1
  have w1 : w.1 = S.i 23 := by
    unfold f_X0_newCells at e1
    cases e1
    exact Int32.add_sub_cancel _ _
  have w2 : w.2 = CS.setI S 23 (S.i 23 + n) := by
    unfold f_X0_newCells at e1
    cases e1
    rfl
  have n23 : (S.i 23 + n).toInt = (S.i 23).toInt + n.toInt := by rw [toInt_add] <;> omega
  have n2 : (n - 2).toInt = n.toInt - 2 := by
    have e2 : (2 : Int32).toInt = 2 := by decide
    rw [toInt_sub] <;> rw [e2] <;> omega
  have x1 : CD1 0 (2 * n.toInt) S w.2 := by
    rw [w2]
    refine ⟨⟨Int.le_refl _, ?_, ?_⟩, fun _ _ => ⟨rfl, rfl⟩, Int.le_refl _, Int.le_refl _, fun _ _ => ⟨rfl, rfl⟩, ⟨?_, ?_⟩, rfl, Int.le_refl _, fun _ _ => rfl⟩
    · show (S.i 20).toInt + (S.i 44).toInt ≤ (S.i 20).toInt + (S.i 44).toInt + 0
      omega
    · show (S.i 21).toInt + (S.i 44).toInt ≤ (S.i 21).toInt + (S.i 44).toInt + 2 * n.toInt
      omega
    · show (S.i 23).toInt ≤ (S.i 23 + n).toInt
      omega
    · show 2 * (S.i 23 + n).toInt + (S.i 44).toInt ≤ 2 * (S.i 23).toInt + (S.i 44).toInt + 2 * n.toInt
      omega
  have a17 : w.2.a 17 = S.a 17 := by rw [w2]; rfl
  have i21 : w.2.i 21 = S.i 21 := by rw [w2]; rfl
  have i23 : (w.2.i 23).toInt = (S.i 23).toInt + n.toInt := by rw [w2]; exact n23
  have ew : w.1.toInt = (S.i 23).toInt := by rw [w1]
  have ng1 : ∀ (nm : Nat → Nat → Prop) (c : List Ent), NMH nm c S s → NMH nm c w.2 s := fun nm c z => by
    have nc := z.2.2.2.mv x1.2.2.2.2.2.1.1 (SLC.eq (s := s) rfl (Int.le_refl _))
    rw [w2] at nc ⊢
    exact ⟨z.1, z.2.1, z.2.2.1, nc⟩
  have sat : SAT (GNC w.1.toInt n.toInt) S s w.2 s := fun sl => ⟨sl, fun _ => True, fun _ _ => False, ⟨fun _ _ z => z.elim, fun _ _ _ _ z => z.elim⟩, fun FC nm g k l k1 k2 q => (g.2 k l (Or.inl ⟨by omega, by omega⟩)).mp q⟩
  have tg : ptl ((cv w.1 (n - 2) :: W) ++ V0) = ptl (W ++ V0) := by
    show rtgs (cv w.1 (n - 2)) ++ ptl (W ++ V0) = _
    rw [cv.tgs]
    rfl
  refine ⟨(b1.tr x1.k).wk (by omega) (by omega), ⟨b2.tr (CT7.eq a17), n8.nk (NK.eq (by rw [w2]; rfl) (by rw [w2]; rfl) rfl rfl)⟩, b3, b4, GPS.an Ψ (GNC w.1.toInt n.toInt), G, col, YJ, (sax.an sat (MNO.ofk b1 b3) (MNO.ofk x1.k (KD2.rf 0 s)) pin.2.2.1).nt cv.ty, ⟨⟨fun k q => pin.1 k (q.nt cv.site), fun k q => pin.2.1 k (q.nt (by rw [cv.v]; decide)), fun k q => pin.2.2.1 k (q.nt cv.ty), fun k q => pin.2.2.2 k (q.nt cv.ty)⟩, pin0⟩, ?_, ⟨jsi.1.mv (rjw.n (fun z => absurd z.1 (by rw [cv.v]; decide))) (fun r hr => (List.mem_cons.mp hr).elim (fun z => Or.inr (fun k q => by rw [z] at q; exact absurd q cv.site)) Or.inl) b4 (KD2.rf _ _) (fun _ _ q => q.1), (jsi.2.1.tr x1.k).wk (by omega) (by omega), (jsi.2.2.1.mv crB.1.1.2.1 x1.k.2.2.1 x1.k.1.1 (CT7.eq a17) (fun r hr _ _ => hr)).cs (rhd.no (by rw [cv.v]; decide)), jsi.2.2.2.kd x1.k (KD2.rf _ _)⟩, ?_⟩
  · have z := tgi.mv crB.1.1.2.1 (by rw [i21]; exact Int.le_refl _) (CT7.eq a17)
    unfold TGI at z ⊢
    rw [tg]
    exact z
  intro FC SF nm X h0 ω c0 psi ng0 hc0 hh0 hω
  obtain ⟨⟨ng, hc, hh, wn⟩, mn⟩ := main FC SF nm X h0 ω c0 psi.1 ng0 hc0 hh0 hω
  refine ⟨⟨⟨ng1 nm _ ng.1, ng.2⟩, hc, hh, fun r hr hv => ?_, wn.2⟩, fun fc fg hA tyc jr => ⟨by omega, ⟨by omega, hc.row (fun k k1 k2 => ?_)⟩, mn (fc.pre x1.k (CT7.eq a17) (fun y hy => Or.inl (by rw [tg] at hy; exact hy))) ?_ hA tyc jr⟩⟩
  · rcases List.mem_cons.mp hr with z | hr
    · rw [z]
      refine ⟨fun _ => ⟨show 0 ≤ w.1.toInt by omega, fun k k1 k2 => ?_⟩, fun y => absurd y cv.ty⟩
      have k1' : w.1.toInt ≤ (k : Int) := k1
      have k2' : (k : Int) < w.1.toInt + 2 + (n - 2).toInt := k2
      refine ⟨by omega, by omega, fun l => psi.2 k l k1' (by omega), fun e' he' q => ?_⟩
      have := (ng.1.2.2.2.2 e' he').1 k q
      omega
    · refine ⟨fun e9 => ⟨((wn.1 r hr hv).1 e9).1, fun k k1 k2 => ?_⟩, (wn.1 r hr hv).2⟩
      obtain ⟨z1, z2⟩ := ((wn.1 r hr hv).1 e9).2 k k1 k2
      exact ⟨by omega, z2⟩
  · have cw := clampI (show 0 ≤ w.1.toInt by omega)
    have cn := clampI (show 0 ≤ (n - 2).toInt by omega)
    refine ⟨by omega, fun l => psi.2 k l (by omega) (by omega), fun e' he' q => ?_⟩
    have := (ng.1.2.2.2.2 e' he').1 k q
    omega
  · obtain ⟨h1, h4, h5, h6, h7⟩ := fg
    exact ⟨h1, fun j j1 j2 => ⟨(h4 j j1 j2).1, fun q => (h4 j j1 j2).2.1 (fun p => q (p.nt cv.site)), fun q => (h4 j j1 j2).2.2 (fun p => q (p.nt (by rw [cv.v]; decide)))⟩, fun j j1 j2 => ⟨(h5 j j1 j2).1, (h5 j j1 j2).2.1, fun q => (h5 j j1 j2).2.2.1 (fun p => q (p.nt (by rw [cv.v]; decide))), (h5 j j1 j2).2.2.2⟩, fun j j1 j2 q => h6 j j1 j2 (fun p => q (p.nt cv.ty)), fun j j1 j2 => ⟨(h7 j j1 j2).1, (h7 j j1 j2).2.1, (h7 j j1 j2).2.2.1, fun q => (h7 j j1 j2).2.2.2 (fun p => q (p.nt cv.ty))⟩⟩
end
section
variable {A : JBA} {U : RS} {B : CS} {b : RS} {V0 : List RVW} {s0 : RS} {W : List RVW} {K K' : JKT} {a e : Int} {S : CS} {s : RS}
/-- the class alone: a token on -/
theorem JRG.cec {R : CS} (m : Int) (h : JRG A U B b V0 s0 W K a e S s) (kp : pj R = pj S) (ke : pe R = pe S) (l : (S.i 44).toInt + m ≤ (R.i 44).toInt) : JRG A U B b V0 s0 W K (a - m) (e - m) R s := by
  obtain ⟨-, -, -, -, -, -, -, -, -, -, -, -, -, i50, -, -, -, -, -, -, a48, a49, -, -, -, -, -, i21, -⟩ := pj_eq kp
  have c1 : CD1 (-m) (-m) S R := CD1.pe (b := m) ke i21 i50 a48 a49 l
  have y : JSP (-1) a e (-m) (-m) U s0 K K S s R s := fun _ => ⟨GPS.tt, c1.k, ⟨CT7.eq (pe_eq ke).2.2.2.1, NK.eq a48 a49 rfl rfl⟩, KD2.rf _ _, SAT.tt _ _ _ _ (SLC.eq rfl (Int.le_refl _)), fun _ nm c _ _ ng => ⟨fun k hk => by
    rw [a48, a49]
    exact ng.1 k hk, by rw [c1.2.2.2.2.2.2.1]; exact ng.2.1, ng.2.2.1, ng.2.2.2.mv c1.2.2.2.2.2.1.1 (SLC.eq rfl (Int.le_refl _))⟩, fun _ _ _ _ _ _ _ _ _ _ _ _ _ _ _ _ k => k⟩
  exact h.cod y
/-- the class tells the name and lays its STORE, the reference ROWNEXT -/
theorem JRG.rwn {N : Nat} {l : Int64} {x9 : Int32 × CS} {z : Int32 × RS} {u0 : RS} {p : Unit × CS} {y : Int32} (h : JRG A U B b V0 s0 W K a e S s) (hb : (b.i 38).toInt ≤ (s.i 38).toInt) (n50 : S.i 50 = s.i 38) (hk8 : 2 ≤ (s.i 38).toInt ∧ (s.i 38).toInt < 128) (h44 : (S.i 44).toInt ≤ 900) (h20 : 0 ≤ (s.i 20).toInt ∧ (s.i 20).toInt ≤ 2900) (e9 : f_X7_tell N S l = some x9) (hz : f_X12_see N s l 0 = some z) (ea : f_X0_add N x9.2 2 x9.1 = some p) (k3 : CD2 (z.2.i 20).toInt z.2 u0) (m3 : (u0.i 20).toInt = (z.2.i 20).toInt + 1) (m4 : u0.a 21 (pcR z.2) = 24 ∧ u0.a 23 (pcR z.2) = z.1) (v42 : u0.i 42 = z.2.i 42) (v38 : u0.i 38 = z.2.i 38) (v40 : u0.a 40 = z.2.a 40) (hy : y = z.2.i 20) (la : a ≤ 100) (le : e ≤ 100) (hK : ∀ (FC : Nat → Prop) (SF : CS) (nm : Nat → Nat → Prop) (X : Als) (ω : Nat) (j : JCT) (Z : Prop), (SF.a 15 (pcC S) = 2 ∧ SF.a 16 (pcC S) = x9.1 ∧ pcC S < 1200 ∧ pcC p.2 = pcC S + 1) → (U.a 21 (pcR s) = 24 ∧ U.a 23 (pcR s) = z.1 ∧ (((pcR s : Nat) : Int) < (U.i 20).toInt ∧ (U.i 20).toInt ≤ 3000) ∧ pcR u0 = pcR s + 1 ∧ y.toNatClampNeg = pcR s) → (∃ c d : Nat, x9.1.toInt = (c : Int) ∧ z.1.toInt = (d : Int) ∧ nm c d) → K FC SF nm X ω j Z → K' FC SF nm X ω j Z) : JRG A U B b V0 s0 (sv y :: W) K' (a + 1) (e + 2) p.2 u0 := by
  obtain ⟨g1, g2, g3⟩ := see_cd hz
  obtain ⟨⟨z0, z9⟩, zi38, zi, za, -, -, zr⟩ := y_see hz
  have z20 : z.2.i 20 = s.i 20 := zi 20 (by decide) (by decide)
  have cV : CD2 (s.i 20).toInt s u0 := see_cd2 hz k3 ⟨v42, by omega⟩ h20.2
  have m3' := m3
  rw [z20] at m3'
  have ey : y.toInt = (s.i 20).toInt := by rw [hy, z20]
  refine h.sitT (t := True) (y := y) (fun _ => hb) (fun rm => ?_) ⟨by omega, by omega⟩
  obtain ⟨⟨r0, r1⟩, r2, r3, r4, r5⟩ := rm
  have h50 : 0 ≤ (S.i 50).toInt ∧ (S.i 50).toInt < 128 := by rw [n50]; exact ⟨by omega, by omega⟩
  obtain ⟨d1, d2, d3, d4, d5, d6, d7, d8, d9, d10⟩ := cd_tell e9 h50.1 h50.2 r4 (by omega)
  have i20 : (x9.2.i 20).toInt = (S.i 20).toInt := by rw [d5]
  obtain ⟨c1, c2, ⟨c3, c3'⟩, c4, c5, c6⟩ := cd_add ea (by omega) (by omega)
  have f1 : p.2.a 48 = x9.2.a 48 ∧ p.2.a 49 = x9.2.a 49 ∧ p.2.i 38 = x9.2.i 38 ∧ p.2.i 23 = x9.2.i 23 := by
    unfold f_X0_add at ea
    cases ea
    exact ⟨rfl, rfl, rfl, rfl⟩
  have cR : CD1 1 2 S p.2 := (d1.tr c1).wk (by omega) (by omega)
  have pS : ((pcC S : Nat) : Int) = (S.i 20).toInt := Int.toNat_of_nonneg r0
  have pc9 : pcC x9.2 = pcC S := by unfold pcC; rw [d5]
  have pr9 : pcR z.2 = pcR s := by unfold pcR; rw [z20]
  have ps : ((pcR s : Nat) : Int) = (s.i 20).toInt := Int.toNat_of_nonneg h20.1
  have pcp : pcC p.2 = pcC S + 1 := by
    unfold pcC
    rw [c2, d5]
    omega
  have prV : pcR u0 = pcR s + 1 := by
    unfold pcR
    rw [m3']
    have := h20.1
    omega
  rw [pc9] at c3 c3'
  rw [pr9] at m4
  refine ⟨GNM x9.1 z.1, cR.k, ⟨(CT7.eq d4).tr (CT7.eq c4), NK.of cR cV n50 (Or.inr True.intro)⟩, cV.k, see_sat r4 (by rw [d2]) g1 (by rw [f1.2.2.2]; omega) (fun sl => ?_), fun FC nm c ps' _ ng => ng.tel ps' n50 z0 (fun k hk => ?_) ⟨by rw [f1.1, d9, d2], by rw [f1.2.1, d10]⟩ (cR.2.2.2.2.2.2.1) (by rw [v38, zi38, ad1 z0 (by omega)]) (fun j hj => by rw [v40]; exact (zr j hj).2.1) (by rw [v40, g3, g1]) cV.1.2.2.2.2.2 (ng.2.2.2.mv cR.2.2.2.2.2.1.1 cV.1.2.2.2.2.1), fun FC SF nm X ω j Zp ps' fc fg ng hc hh tyc tl hω kk => hK FC SF nm X ω j Zp ?_ ?_ ps' kk⟩
  · have s1 : (s.i 42 + 1).toInt = (s.i 42).toInt + 1 := ad1 sl.1 (by have := sl.2; omega)
    exact ⟨by rw [v42, g2, s1], (cV.1.2.2.2.2.1 sl).2⟩
  · rw [f1.1, f1.2.1]
    exact d1.2.2.2.2.1 k hk
  · have f := fc.2.1 (pcC S) (by omega) (by rw [c2, i20]; omega)
    have r12 := fc.1.2
    rw [c2] at r12
    exact ⟨by rw [f.1]; exact c3, by rw [f.2]; exact c3', by omega, pcp⟩
  · have u := fg.2.1 (pcR s) (by omega) (by omega)
    have f1' := fg.1
    exact ⟨by rw [u.1]; exact m4.1, by rw [u.2.2]; exact m4.2, ⟨by have := f1'.2.1; omega, f1'.2.2⟩, prV, by rw [hy, z20]; rfl⟩
end
theorem qe.s52 {u y : RS} {v : Int32} (h : qe u = qe y) : qe (RS.setI u 52 v) = qe (RS.setI y 52 v) := by
  obtain ⟨⟨i1, i2, i3, i4, i5, -⟩, a21, a22, a23, a25, a26, a27, a28, a30, a31, a32, a34, a35, a36, a37⟩ := qe_eq h
  have e : ∀ s : RS, qe (RS.setI s 52 v) = ((s.i 20, s.i 24, s.i 29, s.i 33, s.i 42, v), s.a 21, s.a 22, s.a 23, s.a 25, s.a 26, s.a 27, s.a 28, s.a 30, s.a 31, s.a 32, s.a 34, s.a 35, s.a 36, s.a 37) := fun _ => rfl
  rw [e, e, i1, i2, i3, i4, i5, a21, a22, a23, a25, a26, a27, a28, a30, a31, a32, a34, a35, a36, a37]
theorem D52.s52 {u : RS} {v : Int32} : D52 (RS.setI u 52 v) u := ⟨⟨rfl, rfl, rfl, rfl, rfl⟩, rfl, rfl, rfl, rfl, rfl, rfl, rfl, rfl, rfl, rfl, rfl, rfl, rfl, rfl⟩
/-- good here, with an entry more, gives Z -/
def JQN (U : RS) (δ : Nat) (en : Nat → Ent) (p q : Nat) (Z : JKT) : JKT := fun FC SF nm X ω j z => GU FC SF U nm X p q j.h (ω + j.l + δ - p) 0 (en j.h :: j.c) → Z FC SF nm X ω j z
/-- a lock's entry -/
def enL (h : Nat) : Ent := (0, h, 0, 0, 0, 0, 0)
theorem HC0.lck {nm : Nat → Nat → Prop} {h : Nat} {c : List Ent} (z : HC0 nm h c) (l : frs c ≤ 21) : HC0 nm h (enL h :: c) := by
  obtain ⟨z1, z2, z3, z4⟩ := z
  refine ⟨⟨fun k q => ?_, fun l q => ?_, z1⟩, z2, ?_, fun e he => ?_⟩
  · rcases q with ⟨q, -⟩ | ⟨q, -⟩ <;> exact absurd (show (0 : Nat) = _ from q) (by decide)
  · exact absurd (show (0 : Nat) = 2 from q.1) (by decide)
  · show frs c + (if (0 : Nat) ≤ 3 then 1 else 0) ≤ 22
    rw [if_pos (by decide)]
    omega
  · rcases List.mem_cons.mp he with rfl | he
    · exact Nat.le_refl _
    · exact z4 e he
theorem NCB.cons {c : List Ent} {S : CS} {s : RS} {e : Ent} (h : NCB c S s) (h2 : ¬ e.k = 2) (h4 : ¬ e.k = 4) : NCB (e :: c) S s := ⟨h.1, fun e' he => by
  rcases List.mem_cons.mp he with z | he
  · rw [z]
    exact ⟨fun k q => by rcases q with ⟨q, -⟩ | ⟨q, -⟩; exact absurd q h2; exact absurd q h4, fun l q => absurd q.1 h2⟩
  · exact h.2 e' he⟩
theorem NCB.d {c : List Ent} {S R : CS} {s u : RS} (h : NCB c S s) (d : D38 S R) (d' : D52 s u) : NCB c R u := by
  unfold NCB SLO at h ⊢
  rw [d.1.2.2.2.1, d'.1.2.2.2.2, d'.1.1]
  exact h
end
section
/-! both readers: a try's head, its steps -/
theorem HRW.zz {s0 : CS} {r0 : RS} {A : Als} {e e' : Ent} {c : List Ent} {W : Nat} (hh : e'.h = e.h) (hx : e'.x = e.x) (hy : e'.y = e.y) (hu : e'.u = e.u) : ∀ (n p : Nat) (k : Int32), HRW s0 r0 A e c W n p k → HRW s0 r0 A e' c W n p k := by
  intro n
  induction n with
  | zero => intro _ _ h; exact h
  | succ n ih =>
    intro p k h
    obtain ⟨h0, h⟩ := h
    refine ⟨h0, ?_⟩
    rcases h with h | ⟨h1, j, pb, qb, z, l', w, a2, a3, a4, a5, a6, ⟨a7, a8⟩, a9⟩ | ⟨h1, p', h2, h3⟩
    · exact Or.inl h
    · exact Or.inr (Or.inl ⟨h1, j, pb, qb, z, l', w, a2, a3, a4, a5, a6, ⟨by rw [hh, hx, hy, hu]; exact a7, a8⟩, ih _ _ a9⟩)
    · exact Or.inr (Or.inr ⟨h1, p', h2, ih _ _ h3⟩)
/-- a try's entry: z things are open -/
def enT (x y z h u : Nat) : Ent := (1, h, x, y, z, 0, u)
theorem HBD.zz {s0 : CS} {r0 : RS} {A : Als} {x y z z' h u : Nat} {c : List Ent} {W : Nat} (k : HBD s0 r0 A (enT x y z h u) c W) : HBD s0 r0 A (enT x y z' h u) c W := by
  obtain ⟨n, p, a, b, d⟩ := k
  exact ⟨n, p, a, b, HRW.zz (e := enT x y z h u) (e' := enT x y z' h u) rfl rfl rfl rfl _ _ _ d⟩
theorem HFN.zz {s0 : CS} {r0 : RS} {A : Als} {x y z z' h u : Nat} {c : List Ent} {W : Nat} (k : HFN s0 r0 A (enT x y z h u) c W) : HFN s0 r0 A (enT x y z' h u) c W := k
theorem HC0.try {nm : Nat → Nat → Prop} {x y k h u : Nat} {c : List Ent} (z : HC0 nm h c) (l : frs c ≤ 21) (m : ops c + k ≤ 320) : HC0 nm h (enT x y k h u :: c) := by
  obtain ⟨z1, z2, z3, z4⟩ := z
  refine ⟨⟨fun k q => ?_, fun l q => ?_, z1⟩, ?_, ?_, fun e he => ?_⟩
  · rcases q with ⟨q, -⟩ | ⟨q, -⟩ <;> exact absurd (show (1 : Nat) = _ from q) (by decide)
  · exact absurd (show (1 : Nat) = 2 from q.1) (by decide)
  · show ops c + (if (1 : Nat) = 1 then k else 0) ≤ 320
    rw [if_pos rfl]
    exact m
  · show frs c + (if (1 : Nat) ≤ 3 then 1 else 0) ≤ 22
    rw [if_pos (by decide)]
    omega
  · rcases List.mem_cons.mp he with q | q
    · rw [q]
      exact Nat.le_refl _
    · exact z4 e q
theorem try_l1 {a b p : Nat} (h : p < 1200) : (a + (b + 1265)) + 2 ≤ a + b + 2528 - p := by omega
theorem try_l2 {a b p : Nat} (h : p < 1200) : a + b + 2528 - (p + 1) + 1 ≤ a + b + 2528 - p := by omega
/-- inside a try's head: good here gives Z, if its handlers are good -/
def TRK (U : RS) (x y z p q : Nat) : JKT := fun FC SF nm X ω j Zp => HBD SF U (GU FC SF U nm X) (enT x y z j.h (ω + j.l)) j.c (ω + (j.l + 1265)) → HFN SF U (GU FC SF U nm X) (enT x y z j.h (ω + j.l)) j.c (ω + (j.l + 1265)) → (∃ w : Nat, w ≤ ω + j.l + 2528 - p ∧ GU FC SF U nm X p q j.h w 0 (enT x y z j.h (ω + j.l) :: j.c)) → Zp
section
variable {A : JBA} {U : RS} {B : CS} {b : RS} {V0 : List RVW} {s0 : RS} {W : List RVW} {K K' : JKT} {a e : Int} {S : CS} {s : RS}
/-- TRY in both -/
theorem JRG.ent {N x y : Nat} {ox oy : Int32} {p : Unit × CS} {V : Int32 × RS} (h : JRG A U B b V0 s0 W (JQG U 2528 0 1 (pcC S) (pcR s) JQZ) a e S s) (e1 : f_X0_add N S 54 ox = some p) (h44 : (S.i 44).toInt ≤ 900) (ha : a ≤ 200) (hz : f_X12_emit N s 31 oy = some V) (h20 : 0 ≤ (s.i 20).toInt ∧ (s.i 20).toInt < 3000) (hx : ox.toInt = (x : Int)) (hy : oy.toInt = (y : Int)) (l19 : (s0.i 19).toInt ≤ 20) : JRG A U B b V0 s0 W (TRK U x y 0 (pcC p.2) (pcR V.2)) (a + 1) e p.2 V.2 :=
  h.one (K' := TRK U x y 0 (pcC p.2) (pcR V.2)) e1 h44 ha hz h20 (fun FC SF nm X ω j Z pq a1 a2 b1 b2 b3 c1 c2 ng hc hh tyc tl hω k _ _ gu => k (by
    obtain ⟨w, lw, gu⟩ := gu
    rw [c1] at lw
    rw [c1, c2] at gu
    have p12 := pq.1
    have f19 := ng.2
    have l2 : w + 1 ≤ ω + j.l + 2528 - pcC S := by
      have := try_l2 (a := ω) (b := j.l) p12
      omega
    exact gi_UTry (pq.hc hc) pq.2.1 ⟨a1, b1, rfl, by omega, x, y, ω + j.l, by rw [a2]; exact hx, by rw [b2]; exact hy, w, l2, gu⟩))
/-- OPEN in both -/
theorem JRG.opr {N x y z : Nat} {o o' : Int32} {p : Unit × CS} {V : Int32 × RS} (h : JRG A U B b V0 s0 W (TRK U x y z (pcC S) (pcR s)) a e S s) (e1 : f_X0_add N S 55 o = some p) (h44 : (S.i 44).toInt ≤ 900) (ha : a ≤ 200) (hz : f_X12_emit N s 32 o' = some V) (h20 : 0 ≤ (s.i 20).toInt ∧ (s.i 20).toInt < 3000) (ho : o = o') (l19 : (s0.i 19).toInt ≤ 20) (l11 : (s0.i 11).toInt + 3 * (z : Int) ≤ 900) : JRG A U B b V0 s0 W (TRK U x y (z + 1) (pcC p.2) (pcR V.2)) (a + 1) e p.2 V.2 :=
  h.one (K' := TRK U x y (z + 1) (pcC p.2) (pcR V.2)) e1 h44 ha hz h20 (fun FC SF nm X ω j Z pq a1 a2 b1 b2 b3 c1 c2 ng hc hh tyc tl hω k hb hf gu => k hb.zz hf.zz ⟨ω + j.l + 2528 - pcC S, Nat.le_refl _, (by
    obtain ⟨w, lw, gu⟩ := gu
    rw [c1] at lw
    rw [c1, c2] at gu
    have p12 := pq.1
    have f19 := ng.2
    have m : 2 * j.h + (j.c.length + 3 * ops j.c) = 2 * j.h + msr j.c := rfl
    have hc' : HC0 nm j.h (enT x y z j.h (ω + j.l) :: j.c) := hc.try (by omega) (by omega)
    have ty : TYC SF U (GU FC SF U nm X) (ω + (j.l + 1265)) (enT x y z j.h (ω + j.l) :: j.c) := ⟨fun _ => hb.zz, fun _ => hf.zz, tyc.up (by omega)⟩
    have l1 : (ω + (j.l + 1265)) + 2 ≤ ω + j.l + 2528 - pcC S := try_l1 p12
    have l3 := try_l2 (a := ω) (b := j.l) p12
    have l2 : w + 1 ≤ ω + j.l + 2528 - pcC S := Nat.le_trans (Nat.succ_le_succ lw) l3
    obtain ⟨u9, hu9⟩ : ∃ u9 : Nat, u9 = ω + (j.l + 1265) := ⟨_, rfl⟩
    rw [← hu9] at ty l1
    have e3 : SF.a 16 (pcC S) = U.a 22 (pcR s) := by rw [a2, b2, ho]
    exact gi_UOpe (pq.hc hc') pq.2.1 ⟨a1, b1, e3, u9, enT x y z j.h (ω + j.l), j.c, l1, ty, rfl, rfl, w, l2, gu⟩)⟩)
/-- the class alone: tokens -/
theorem JRG.cek {R : CS} (m : Int) (h : JRG A U B b V0 s0 W K a e S s) (ke : pe R = pe S) (i21 : R.i 21 = S.i 21) (a48 : R.a 48 = S.a 48) (a49 : R.a 49 = S.a 49) (i50 : R.i 50 = S.i 50) (l : (S.i 44).toInt + m ≤ (R.i 44).toInt) : JRG A U B b V0 s0 W K (a - m) (e - m) R s := by
  have c1 : CD1 (-m) (-m) S R := CD1.pe (b := m) ke i21 i50 a48 a49 l
  have y : JSP (-1) a e (-m) (-m) U s0 K K S s R s := fun _ => ⟨GPS.tt, c1.k, ⟨CT7.eq (pe_eq ke).2.2.2.1, NK.eq a48 a49 rfl rfl⟩, KD2.rf _ _, SAT.tt _ _ _ _ (SLC.eq rfl (Int.le_refl _)), fun _ nm c _ _ ng => ⟨fun k hk => by
    rw [a48, a49]
    exact ng.1 k hk, by rw [c1.2.2.2.2.2.2.1]; exact ng.2.1, ng.2.2.1, ng.2.2.2.mv c1.2.2.2.2.2.1.1 (SLC.eq rfl (Int.le_refl _))⟩, fun _ _ _ _ _ _ _ _ _ _ _ _ _ _ _ _ k => k⟩
  exact h.cod y
end
/-- states whose depth is as it was -/
theorem pe.s38 {R S : CS} {v : Int32} (h : pe R = pe S) : pe (CS.setI R 38 v) = pe (CS.setI S 38 v) := by
  obtain ⟨e20, e15, e16, e17, e23, -, e22, e19⟩ := pe_eq h
  have e : ∀ s : CS, pe (CS.setI s 38 v) = (s.i 20, s.a 15, s.a 16, s.a 17, s.i 23, v, s.i 22, s.a 19) := fun _ => rfl
  rw [e, e, e20, e15, e16, e17, e23, e22, e19]
theorem va_cm {f : Nat → Int32} {k l : Nat} {v w : Int32} (h : k ≠ l) : va_up (va_up f k v) l w = va_up (va_up f l w) k v := by
  funext j
  unfold va_up
  by_cases q : j = l
  · rw [if_pos q, if_neg (fun z => h (z.symm.trans q)), if_pos q]
  · rw [if_neg q]
    by_cases z : j = k
    · rw [if_pos z, if_pos z]
    · rw [if_neg z, if_neg z, if_neg q]
theorem csI_cm {S : CS} {k l : Nat} {v w : Int32} (h : k ≠ l) : CS.setI (CS.setI S k v) l w = CS.setI (CS.setI S l w) k v := congrArg (fun f => (some (S.hs, f, S.l, S.a, S.b, S.r, S.w, S.L, S.k, S.o, S.ol, S.ot, S.oa) : CS)) (va_cm h)
theorem rsI_cm {s : RS} {k l : Nat} {v w : Int32} (h : k ≠ l) : RS.setI (RS.setI s k v) l w = RS.setI (RS.setI s l w) k v := congrArg (fun f => ((f, s.l, s.a, s.b) : RS)) (va_cm h)
theorem add_sh {N : Nat} {S : CS} {o x D : Int32} {p : Unit × CS} (e : f_X0_add N S o x = some p) : f_X0_add N (CS.setI S 38 D) o x = some ((), CS.setI p.2 38 D) := by
  unfold f_X0_add at e ⊢
  cases e
  exact congrArg (fun z => some ((), z)) (csI_cm (S := CS.putA (CS.putA S 15 (gPut (S.a 15) 1200 (S.i 20) o)) 16 (gPut (CS.a (CS.putA S 15 (gPut (S.a 15) 1200 (S.i 20) o)) 16) 1200 (S.i 20) x)) (k := 38) (l := 20) (v := D) (w := S.i 20 + 1) (by decide))
theorem em_sh {N : Nat} {s : RS} {o x E : Int32} {V : Int32 × RS} (hz : f_X12_emit N s o x = some V) : f_X12_emit N (RS.setI s 52 E) o x = some (V.1, RS.setI V.2 52 E) := by
  unfold f_X12_emit f_X12_emit_21 at hz ⊢
  by_cases c : (3000 : Int32) ≤ s.i 20
  · rw [if_pos c] at hz
    rw [if_pos (show (3000 : Int32) ≤ (RS.setI s 52 E).i 20 from c)]
    obtain ⟨hib, hz⟩ := hf_ite hz
    rw [if_pos hib]
    cases hz
    exact congrArg (fun z => some ((2999 : Int32), z)) (rsI_cm (s := RS.setA (RS.setA (RS.setA s 21 ((2999 : Int32).toNatClampNeg) o) 22 ((2999 : Int32).toNatClampNeg) x) 23 ((2999 : Int32).toNatClampNeg) 0) (k := 52) (l := 20) (v := E) (w := 2999 + 1) (by decide))
  · rw [if_neg c] at hz
    rw [if_neg (show ¬ (3000 : Int32) ≤ (RS.setI s 52 E).i 20 from c)]
    obtain ⟨hib, hz⟩ := hf_ite hz
    rw [if_pos (show ib ((RS.setI s 52 E).i 20) 3000 from hib)]
    cases hz
    exact congrArg (fun z => some (s.i 20, z)) (rsI_cm (s := RS.setA (RS.setA (RS.setA s 21 ((s.i 20).toNatClampNeg) o) 22 ((s.i 20).toNatClampNeg) x) 23 ((s.i 20).toNatClampNeg) 0) (k := 52) (l := 20) (v := E) (w := s.i 20 + 1) (by decide))
/-- a try that waits, with its exit -/
def yv (y x : Int32) : RVW := (fun k => if k = 0 then 216 else x, fun k => if k = 66 then y else -1, 0, 0)
theorem yv.v {y x : Int32} : (yv y x).v = 216 := rfl
theorem yv.ty {y x : Int32} : isTyv (yv y x) := Or.inr (Or.inr (Or.inr rfl))
theorem yv.tgs {y x : Int32} : rtgs (yv y x) = [x] := by
  unfold rtgs
  rw [yv.v, if_neg (by decide), if_pos (by decide)]
  rfl
theorem yv.site {y x : Int32} {k : Nat} : ¬ rsite (yv y x) k := fun h => by
  rcases h with ⟨h, -⟩ | ⟨h, -⟩ | ⟨h, -⟩ | ⟨h, -⟩
  · rcases h with h | h | h <;> exact absurd h (by rw [yv.v]; decide)
  · exact absurd h (by rw [yv.v]; decide)
  · rcases h with h | h <;> exact absurd h (by rw [yv.v]; decide)
  · rcases h with h | h <;> exact absurd h (by rw [yv.v]; decide)
theorem yv.pty {y x x' : Int32} {V : List RVW} {k : Nat} (h : PTY (yv y x :: V) k) : (k : Int) = y.toInt ∨ PTY (tv x' :: V) k := by
  obtain ⟨r, hr, p1, p2⟩ := h
  rcases List.mem_cons.mp hr with z | hr
  · rw [z] at p2
    exact Or.inl p2
  · exact Or.inr ⟨r, List.mem_cons_of_mem _ hr, p1, p2⟩
theorem yv.pca {y x x' : Int32} {V : List RVW} {k : Nat} (h : PCA (yv y x :: V) k) : PCA (tv x' :: V) k := by
  obtain ⟨r, hr, p1, p2⟩ := h
  rcases List.mem_cons.mp hr with z | hr
  · rw [z] at p2
    have p3 : (k : Int) = (-1 : Int32).toInt := p2
    have e1 : (-1 : Int32).toInt = -1 := by decide
    omega
  · exact ⟨r, List.mem_cons_of_mem _ hr, p1, p2⟩
theorem PEN.cs {r : RVW} {V : List RVW} {col : Nat → Option (Nat × Bool)} {k : Nat} (p : PEN V col k) : PEN (r :: V) col k := by
  rcases p with p | ⟨q, hq, p⟩
  · exact Or.inl p
  · exact Or.inr ⟨q, List.mem_cons_of_mem _ hq, p⟩
theorem PCZ.cs {r : RVW} {V : List RVW} {k : Nat} (p : PCZ V k) : PCZ (r :: V) k := by
  obtain ⟨q, hq, p⟩ := p
  exact ⟨q, List.mem_cons_of_mem _ hq, p⟩
theorem PCH.cs {r : RVW} {V : List RVW} {k : Nat} (p : PCH V k) : PCH (r :: V) k := by
  obtain ⟨q, hq, p⟩ := p
  exact ⟨q, List.mem_cons_of_mem _ hq, p⟩
/-- a try's record: its number -/
def ALC (s u : RS) : Prop := (u.i 20 = s.i 20 ∧ u.i 24 = s.i 24 ∧ (u.i 29).toInt = (s.i 29).toInt + 1 ∧ u.i 33 = s.i 33 ∧ u.i 42 = s.i 42 ∧ u.i 52 = s.i 52) ∧ (u.a 21 = s.a 21 ∧ u.a 22 = s.a 22 ∧ u.a 23 = s.a 23) ∧ (u.a 25 = s.a 25 ∧ u.a 26 = s.a 26 ∧ u.a 27 = s.a 27 ∧ u.a 28 = s.a 28) ∧ (∀ j : Nat, (j : Int) < (s.i 29).toInt → u.a 30 j = s.a 30 j ∧ u.a 31 j = s.a 31 j ∧ u.a 32 j = s.a 32 j) ∧ (u.a 34 = s.a 34 ∧ u.a 35 = s.a 35 ∧ u.a 36 = s.a 36 ∧ u.a 37 = s.a 37)
theorem ALC.kd {s u : RS} (h : ALC s u) (c : Int) : KD2 c s u := by
  obtain ⟨⟨i20, i24, i29, i33, i42, i52⟩, ⟨a21, a22, a23⟩, ⟨a25, a26, a27, a28⟩, h3, ⟨a34, a35, a36, a37⟩⟩ := h
  exact ⟨⟨by rw [i20]; exact Int.le_refl _, by rw [i24]; exact Int.le_refl _, by omega, by rw [i33]; exact Int.le_refl _, SLC.eq i42 (by rw [i20]; exact Int.le_refl _)⟩, fun j _ => ⟨by rw [a21], by rw [a22], by rw [a23]⟩, fun j _ => ⟨by rw [a25], by rw [a26], by rw [a27], by rw [a28]⟩, h3, fun j _ => ⟨by rw [a34], by rw [a35], by rw [a36], by rw [a37]⟩⟩
section
variable {A : JBA} {U : RS} {B : CS} {b : RS} {V0 : List RVW} {s0 : RS} {W : List RVW} {K : JKT} {a e : Int} {S : CS} {s u : RS}
theorem JRG.alc {x y : Int32} (h : JRG A U B b V0 s0 (tv x :: W) K a e S s) (al : ALC s u) (nv : NMV s u) (hy : y.toInt = (s.i 29).toInt) : JRG A U B b V0 s0 (yv y x :: W) K a e S u := by
  intro crB
  obtain ⟨b1, ⟨b2, n8⟩, b3, b4, Ψ, G, col, YJ, sax, ⟨pin, pin0⟩, tgi, jsi, main⟩ := h crB
  have kd := al.kd
  obtain ⟨⟨i20, i24, i29, i33, i42, i52⟩, ⟨a21, a22, a23⟩, ⟨a25, a26, a27, a28⟩, h3, ⟨a34, a35, a36, a37⟩⟩ := al
  have tg : ptl ((yv y x :: W) ++ V0) = ptl ((tv x :: W) ++ V0) := by
    show rtgs (yv y x) ++ ptl (W ++ V0) = rtgs (tv x) ++ ptl (W ++ V0)
    rw [yv.tgs, tv.tgs]
  have slc := (kd 0).1.2.2.2.2
  refine ⟨b1, ⟨b2, n8.nk (NK.eq rfl rfl i52 nv.1)⟩, b3.tr (kd _), b4.tr (kd 0), Ψ, G, col, YJ, ?_, ⟨⟨fun k q => ?_, fun k q => ?_, fun k q => ?_, fun k q => ?_⟩, pin0⟩, ?_, ⟨jsi.1.mv ((rjw.n (fun z => z.2 rfl)).trans (tv.rj x W).symm) (fun r hr => (List.mem_cons.mp hr).elim (fun z => Or.inr (fun k q => by rw [z] at q; exact absurd q yv.site)) (fun z => Or.inl (List.mem_cons_of_mem _ z))) b4 (kd _) (fun _ _ q => q), jsi.2.1, HDS.cs (fun r hr => jsi.2.2.1 r (List.mem_cons_of_mem _ hr)) (rhd.no (by rw [yv.v]; decide)), jsi.2.2.2.kd (KD1.rf S) (kd _)⟩, ?_⟩
  · intro sl
    obtain ⟨t1, F, M, t2, t3⟩ := sax sl
    refine ⟨⟨(slc t1.1).2, fun k p => t1.2 k (yv.pca (x' := x) p)⟩, F, M, ?_, fun FC nm w => t3 FC nm ⟨fun y' y1 y2 y3 => w.1 y' y1 (by omega) (fun p => ?_), fun k l z => w.2 k l (by rw [i42]; exact z)⟩⟩
    · unfold GHM at t2 ⊢
      rw [i42]
      exact t2
    · rcases yv.pty (x' := x) p with z | z
      · omega
      · exact y3 z
  · rw [i20]
    exact pin.1 k ((q.nt yv.site).cs)
  · rw [i24]
    exact pin.2.1 k (PCZ.cs (q.nt (by rw [yv.v]; decide)))
  · rcases yv.pty (x' := x) q with z | z
    · omega
    · have := pin.2.2.1 k z
      omega
  · rw [i33]
    exact pin.2.2.2 k (yv.pca q)
  · unfold TGI at tgi ⊢
    rw [tg]
    exact tgi
  intro FC SF nm X h0 ω c0 psi ng0 hc0 hh0 hω
  obtain ⟨⟨ng, hc, hh, wn⟩, mn⟩ := main FC SF nm X h0 ω c0 psi ng0 hc0 hh0 hω
  refine ⟨⟨⟨⟨fun k hk => ?_, ng.1.2.1, by rw [i52]; exact ng.1.2.2.1, ng.1.2.2.2.mv (Int.le_refl _) slc⟩, ng.2⟩, hc, hh, wn.mv (Int.le_refl _) (fun r hr hv => ?_)⟩, fun fc fg hA tyc jr => mn (fc.pl (fun z hz => by rw [tg] at hz; exact hz)) ?_ hA tyc jr⟩
  · rw [nv.1] at hk
    rw [nv.2 k hk]
    exact ng.1.1 k hk
  · rcases List.mem_cons.mp hr with z | z
    · rw [z] at hv
      exact absurd hv (WGD.no (by rw [yv.v]; decide) rfl)
    · exact List.mem_cons_of_mem _ z
  · obtain ⟨h1, h4, h5, h6, h7⟩ := fg
    refine ⟨by rw [i20] at h1; exact h1, fun j j1 j2 => ?_, fun j j1 j2 => ?_, fun j j1 j2 q => ?_, fun j j1 j2 => ?_⟩
    · obtain ⟨f1, f2, f3⟩ := h4 j j1 (by rw [i20]; exact j2)
      exact ⟨by rw [f1, a21], fun q => by rw [f2 (fun p => q ((p.nt yv.site).cs)), a22], fun q => by rw [f3 (fun p => q (PCH.cs (p.nt (by rw [yv.v]; decide)))), a23]⟩
    · obtain ⟨f1, f2, f3, f4⟩ := h5 j j1 (by rw [i24]; exact j2)
      exact ⟨by rw [f1, a25], by rw [f2, a26], fun q => by rw [f3 (fun p => q (PCZ.cs (p.nt (by rw [yv.v]; decide)))), a27], by rw [f4, a28]⟩
    · obtain ⟨f1, f2, f3⟩ := h6 j j1 (by omega) (fun p => by
        rcases yv.pty (x' := x) p with z | z
        · omega
        · exact q z)
      obtain ⟨g1, g2, g3⟩ := h3 j j2
      exact ⟨f1.trans g1, f2.trans g2, f3.trans g3⟩
    · obtain ⟨f1, f2, f3, f4⟩ := h7 j j1 (by rw [i33]; exact j2)
      exact ⟨by rw [f1, a34], by rw [f2, a35], by rw [f3, a36], fun q => by rw [f4 (fun p => q (yv.pca p)), a37]⟩
/-- as JST.go: the step, with all that it may bring -/
theorem JST.go2 {N : Nat} {P : CS} {q : RS} (j : JST N S s P q) (h : JRW A U B b V0 S s) (h1 : e = 1 ∨ (e = 0 ∧ ALN (S.i 43))) (n50 : S.i 50 = s.i 38) : JRG A U B b V0 s [] (JQG U 2528 0 1 (pcC P) (pcR q) JQZ) 1 e P q := by
  obtain ⟨d1, S1, s1, p, y, ev, cS, tS, cs, pS, ps, ph, e1, hy, eP, eq, -, nv⟩ := j
  have q44 : (S1.i 44).toInt = (s1.i 11).toInt := by rw [ev.p44.1]
  have h6 := (i11_hi ev).2
  have p20 := ev.p20
  rw [← eP, ← eq]
  have y1 := (h.go h1).cod (jsp_tok cS tS cs n50 nv)
  have pc : pcC S1 = pcC S := by unfold pcC; rw [pS]
  have pr : pcR s1 = pcR s := by unfold pcR; rw [ps]
  have y2 : JRG A U B b V0 s [] (JQA U 0 0 (pcC S1) (pcR s1) JQZ) 0 e S1 s1 := y1.imp (by omega) (by omega) (fun FC SF nm X ω j Z _ _ _ _ _ _ k q => by
    rw [pc, pr] at q
    exact k ⟨q 0, q 1⟩)
  exact (y2.stp (δ' := 2528) e1 (by omega) (by decide) hy ⟨p20.1, by omega⟩ (by omega))
end
end
section
/-! both readers: depth and entries by the rows' sorts -/
/-- what is open between a row and the top: heights, costs, the tries among it -/
theorem JCX.app (G : GHT) (ω h0 : Nat) (c0 : List Ent) (V2 : List RVW) : ∀ V1 : List RVW, (JCX G ω h0 c0 V2).l ≤ (JCX G ω h0 c0 (V1 ++ V2)).l ∧ ∃ c1 : List Ent, (JCX G ω h0 c0 (V1 ++ V2)).c = c1 ++ (JCX G ω h0 c0 V2).c ∧ HTS c1 h0 ∧ (∀ e ∈ c1, e.k = 1 ∨ e.k = 2 → ω + (JCX G ω h0 c0 V2).l ≤ e.u ∧ ∃ q ∈ V1, isWl q.v ∧ e.y = (q.2.1 66).toNatClampNeg)
  | [] => ⟨Nat.le_refl _, [], rfl, fun e he => absurd he List.not_mem_nil, fun e he => absurd he List.not_mem_nil⟩
  | r :: V1 => by
    obtain ⟨i0, c1, i1, i2, i3⟩ := JCX.app G ω h0 c0 V2 V1
    have h1 := (JCX.cnt G ω h0 c0 (V1 ++ V2)).1
    obtain ⟨-, -, j3⟩ := jen.cnt (G := G) (ω := ω) (r := r) (h := (JCX G ω h0 c0 (V1 ++ V2)).h) (l := (JCX G ω h0 c0 (V1 ++ V2)).l)
    refine ⟨?_, jen G ω r (JCX G ω h0 c0 (V1 ++ V2)).h (JCX G ω h0 c0 (V1 ++ V2)).l ++ c1, ?_, fun e he hk => ?_, fun e he hk => ?_⟩
    · show (JCX G ω h0 c0 V2).l ≤ (JCX G ω h0 c0 (V1 ++ V2)).l + jlv r.v
      omega
    · show jen G ω r (JCX G ω h0 c0 (V1 ++ V2)).h (JCX G ω h0 c0 (V1 ++ V2)).l ++ (JCX G ω h0 c0 (V1 ++ V2)).c = _
      rw [i1, List.append_assoc]
    · rcases List.mem_append.mp he with z | z
      · exact (j3 e z).1.trans h1
      · exact i2 e z hk
    · rcases List.mem_append.mp he with z | z
      · obtain ⟨k1, k2, k3⟩ := (j3 e z).2 hk
        exact ⟨by rw [k1]; omega, r, List.mem_cons_self, k2, k3⟩
      · obtain ⟨k1, q, hq, k2⟩ := i3 e z hk
        exact ⟨k1, q, List.mem_cons_of_mem _ hq, k2⟩
theorem jen.wl {G : GHT} {ω : Nat} {r : RVW} {h l : Nat} (w : isWl r.v) (n : ¬ r.v = 305) : ∃ e ∈ jen G ω r h l, (e.k = 1 ∨ e.k = 2) ∧ e.y = (r.2.1 66).toNatClampNeg := by
  unfold jen
  rcases w with w | w | w
  · rw [if_neg (by rw [w]; decide), if_pos w]
    exact ⟨_, List.mem_singleton.mpr rfl, Or.inl rfl, rfl⟩
  · rw [if_neg (by rw [w]; decide), if_neg (by rw [w]; decide), if_pos w]
    exact ⟨_, List.mem_singleton.mpr rfl, Or.inr rfl, rfl⟩
  · exact absurd w n
/-- each try between has its entry between -/
theorem JCX.wls (G : GHT) (ω h0 : Nat) (c0 : List Ent) (V2 : List RVW) : ∀ (V1 : List RVW) (c1 : List Ent), (JCX G ω h0 c0 (V1 ++ V2)).c = c1 ++ (JCX G ω h0 c0 V2).c → ∀ q ∈ V1, isWl q.v → ¬ q.v = 305 → ∃ e ∈ c1, (e.k = 1 ∨ e.k = 2) ∧ e.y = (q.2.1 66).toNatClampNeg
  | [], _, _, q, hq, _, _ => absurd hq List.not_mem_nil
  | r :: V1, c1, h, q, hq, w, n => by
    obtain ⟨-, c2, i1, -, -⟩ := JCX.app G ω h0 c0 V2 V1
    have h' : jen G ω r (JCX G ω h0 c0 (V1 ++ V2)).h (JCX G ω h0 c0 (V1 ++ V2)).l ++ (JCX G ω h0 c0 (V1 ++ V2)).c = c1 ++ (JCX G ω h0 c0 V2).c := h
    rw [i1, ← List.append_assoc] at h'
    have e1 := List.append_cancel_right h'
    rw [← e1]
    rcases List.mem_cons.mp hq with z | z
    · rw [z] at w n ⊢
      obtain ⟨e, he, k⟩ := jen.wl (G := G) (ω := ω) (h := (JCX G ω h0 c0 (V1 ++ V2)).h) (l := (JCX G ω h0 c0 (V1 ++ V2)).l) w n
      exact ⟨e, List.mem_append_left _ he, k⟩
    · obtain ⟨e, he, k⟩ := JCX.wls G ω h0 c0 V2 V1 c2 i1 q z w n
      exact ⟨e, List.mem_append_right _ he, k⟩
theorem frs.z {c : List Ent} (h : frs c = 0) : ∀ e ∈ c, 3 < e.k := by
  induction c with
  | nil => exact fun e he => absurd he List.not_mem_nil
  | cons a c ih =>
    have h' : frs c + (if a.k ≤ 3 then 1 else 0) = 0 := h
    intro e he
    rcases List.mem_cons.mp he with z | z
    · rw [z]
      by_cases q : a.k ≤ 3
      · rw [if_pos q] at h'
        omega
      · omega
    · exact ih (by omega) e z
theorem jmp_l {w p : Nat} (h : p < 1200) : w + 2 ≤ w + 1264 - p := by omega
/-- a jump to the row r: LEAVE or GOTO in the class, GO in the reference -/
theorem gu_jmp2 {FC : Nat → Prop} {SF : CS} {U : RS} {nm : Nat → Nat → Prop} {X : Als} {G : GHT} {ω h0 : Nat} {c0 : List Ent} {V1 V2 : List RVW} {p q g : Nat} {x : Int32} (pq : PQX SF U p q) (hc : HC0 nm h0 (JCX G ω h0 c0 (V1 ++ V2)).c) (ty : TYC SF U (GU FC SF U nm X) (ω + (JCX G ω h0 c0 (V1 ++ V2)).t) (JCX G ω h0 c0 (V1 ++ V2)).c) (go : U.a 21 q = 36) (d23 : (U.a 23 q).toInt = ((JCX G ω h0 c0 V2).c.length : Int)) (n305 : ∀ y ∈ V1, ¬ y.v = 305) (cl : (SF.a 15 p = 30 ∧ SF.a 16 p = x ∧ sfr V1 = 0) ∨ (SF.a 15 p = 60 ∧ (SF.a 16 p - SF.a 16 p / 32 * 32).toInt = (frs (JCX G ω h0 c0 V2).c : Int) ∧ SF.a 16 p / 32 = x)) (tg : (∀ y ∈ V1, isWl y.v → 0 ≤ (U.a 31 (y.2.1 66).toNatClampNeg).toInt → FC (y.2.1 66).toNatClampNeg) → ∃ p' q' l2 : Nat, l2 ≤ (JCX G ω h0 c0 V2).l ∧ (cTg SF x).toInt = (p' : Int) ∧ (U.a 22 q).toInt = (q' : Int) ∧ GU FC SF U nm X p' q' h0 (ω + l2 - p') 0 (JCX G ω h0 c0 V2).c) : GU FC SF U nm X p q h0 (ω + (JCX G ω h0 c0 (V1 ++ V2)).l + 1264 - p) g (JCX G ω h0 c0 (V1 ++ V2)).c := by
  obtain ⟨i0, c1, i1, i2, i3⟩ := JCX.app G ω h0 c0 V2 V1
  have wls := JCX.wls G ω h0 c0 V2 V1 c1 i1
  have tl := JCX.tl G ω h0 c0 (V1 ++ V2)
  have p12 := pq.1
  have jl := jmp_l (w := ω + (JCX G ω h0 c0 (V1 ++ V2)).l) p12
  have f0 : sfr V1 = 0 → ∀ e ∈ c1, 3 < e.k := fun z => by
    refine frs.z ?_
    have k1 := (JCX.cnt G ω h0 c0 (V1 ++ V2)).2.1
    have k2 := (JCX.cnt G ω h0 c0 V2).2.1
    have k3 : ∀ V : List RVW, sfr (V ++ V2) = sfr V + sfr V2 := fun V => by
      induction V with
      | nil => exact (Nat.zero_add _).symm
      | cons r V ih =>
        show sfr (V ++ V2) + dfr r.v = (sfr V + dfr r.v) + sfr V2
        rw [ih]
        omega
    rw [i1, frs.app, k3, z, k2] at k1
    omega
  rcases cl with ⟨a1, a2, a3⟩ | ⟨a1, a2, a3⟩
  · obtain ⟨p', q', l2, hl, t1, t2, t3⟩ := tg (fun y hy w _ => by
      exfalso
      obtain ⟨e, he, k, -⟩ := wls y hy w (n305 y hy)
      have := f0 a3 e he
      omega)
    exact gi_UGo3 (pq.hc hc) pq.2.1 ⟨a1, go, c1, (JCX G ω h0 c0 V2).c, i1, f0 a3, d23, p', q', ω + l2 - p', ⟨by rw [a2]; exact t1, t2⟩, by omega, t3⟩
  · refine gi_VGo (pq.hc hc) pq.2.1 ⟨a1, go, ω + (JCX G ω h0 c0 (V1 ++ V2)).l, jl, ty.up (by omega), c1, (JCX G ω h0 c0 V2).c, i1, ⟨a2, d23⟩, i2, fun fb => ?_⟩
    obtain ⟨p', q', l2, hl, t1, t2, t3⟩ := tg (fun y hy w h31 => by
      obtain ⟨e, he, k, ey⟩ := wls y hy w (n305 y hy)
      have z := fb e he k
      rw [ey] at z
      exact z h31)
    exact ⟨p', q', ω + l2 - p', ⟨by rw [a3]; exact t1, t2⟩, t3, by omega, fun e he k => by have := (i3 e he k).1; omega⟩
end
section
/-! both readers: a jump's code -/
theorem lv5 {t g : Int32} (ht : NT5 t) (hg : 0 ≤ g.toInt ∧ g.toInt < 32) : (t * 32 + g) / 32 = t ∧ ((t * 32 + g) - (t * 32 + g) / 32 * 32).toInt = g.toInt := by
  obtain ⟨t0, t1⟩ := ht
  have e32 : (32 : Int32).toInt = 32 := by decide
  have m1 : (t * 32).toInt = t.toInt * 32 := by
    rw [Int32.toInt_mul, e32, Int.bmod_eq_of_le (by omega) (by omega)]
  have a1 : (t * 32 + g).toInt = t.toInt * 32 + g.toInt := by rw [toInt_add] <;> rw [m1] <;> omega
  have d1 : (t * 32 + g) / 32 = t := by
    refine Int32.toInt_inj.mp ?_
    rw [Int32.toInt_div, a1, e32, Int.tdiv_eq_ediv_of_nonneg (by omega), Int.bmod_eq_of_le (by omega) (by omega)]
    omega
  refine ⟨d1, ?_⟩
  rw [d1, toInt_sub] <;> rw [a1, m1] <;> omega
/-- the tries among the rows -/
def wly : List RVW → List Nat
  | [] => []
  | r :: V => if r.v = 213 ∨ r.v = 215 ∨ r.v = 305 then (r.2.1 66).toNatClampNeg :: wly V else wly V
theorem wly.mem : ∀ (V : List RVW) (y : Nat), y ∈ wly V ↔ ∃ r ∈ V, isWl r.v ∧ y = (r.2.1 66).toNatClampNeg
  | [], y => ⟨fun h => absurd h List.not_mem_nil, fun ⟨r, hr, _⟩ => absurd hr List.not_mem_nil⟩
  | r :: V, y => by
    have ih := wly.mem V y
    unfold wly
    by_cases q : r.v = 213 ∨ r.v = 215 ∨ r.v = 305
    · rw [if_pos q, List.mem_cons, ih]
      constructor
      · rintro (h | ⟨w, hw, h⟩)
        · exact ⟨r, List.mem_cons_self, q, h⟩
        · exact ⟨w, List.mem_cons_of_mem _ hw, h⟩
      · rintro ⟨w, hw, h1, h2⟩
        rcases List.mem_cons.mp hw with e | hw
        · rw [e] at h2
          exact Or.inl h2
        · exact Or.inr ⟨w, hw, h1, h2⟩
    · rw [if_neg q, ih]
      constructor
      · rintro ⟨w, hw, h⟩
        exact ⟨w, List.mem_cons_of_mem _ hw, h⟩
      · rintro ⟨w, hw, h1, h2⟩
        rcases List.mem_cons.mp hw with e | hw
        · rw [e] at h1
          exact absurd h1 q
        · exact ⟨w, hw, h1, h2⟩
theorem sfr.app : ∀ (V W : List RVW), sfr (V ++ W) = sfr V + sfr W
  | [], W => (Nat.zero_add _).symm
  | r :: V, W => by
    show sfr (V ++ W) + dfr r.v = (sfr V + dfr r.v) + sfr W
    rw [sfr.app V W]
    omega
theorem DPM.mid {G : GHT} {f l : Nat} {s : RS} {r : RVW} {V2 : List RVW} : ∀ (V1 : List RVW), DPM G f l s (V1 ++ r :: V2) → isGo r.v → ((r.1 2).toInt = ((f + sfr V2 : Nat) : Int) ∧ (s.a 47 r.2.2.2).toInt = ((l + sln (r :: V2) : Nat) : Int)) ∧ NT5 (r.1 9) ∧ (isLo r.v → NT5 (r.1 10)) ∧ RHP r.v r.2.1
  | [], h, g => h.1.1 g
  | _ :: V1, h, g => DPM.mid V1 h.2 g
section
variable {FC : Nat → Prop} {SF : CS} {U : RS} {nm : Nat → Nat → Prop} {X : Als} {G : GHT} {col col' : Nat → Option (Nat × Bool)} {YJ YJ' : Nat → List Nat} {ω h0 : Nat} {c0 : List Ent}
theorem JRS.mid {r : RVW} {V2 : List RVW} : ∀ (V1 : List RVW), JRS FC SF U nm X G col YJ ω h0 c0 (V1 ++ r :: V2) → JRH FC SF U nm X G col YJ ω r (JCX G ω h0 c0 V2)
  | [], h => h.1
  | _ :: V1, h => JRS.mid V1 h.2
theorem JRS.cl (hc : ∀ i : Nat, ¬ col i = none → col' i = col i ∧ YJ' i = YJ i) : ∀ (V : List RVW), JRS FC SF U nm X G col' YJ' ω h0 c0 V → JRS FC SF U nm X G col YJ ω h0 c0 V
  | [], _ => True.intro
  | r :: V, h => by
    obtain ⟨⟨h1, h2, h3, h4, h5, h6, h7, h8, h9⟩, h0'⟩ := h
    refine ⟨⟨h1, h2, h3, h4, h5, h6, h7, h8, fun go i fy => ?_⟩, JRS.cl hc V h0'⟩
    refine ⟨fun e => ?_, fun e => ?_⟩
    · obtain ⟨c1, c2⟩ := hc i (by rw [e]; exact fun z => by cases z)
      rw [← c2] at fy
      exact (h9 go i fy).1 (c1.trans e)
    · obtain ⟨c1, c2⟩ := hc i (by rw [e]; exact fun z => by cases z)
      rw [← c2] at fy
      exact (h9 go i fy).2 (c1.trans e)
end
/-- where a jump to a row leads: what is open there -/
theorem jbk.cx {G : GHT} {ω h0 : Nat} {c0 : List Ent} {r : RVW} {V2 : List RVW} (go : isGo r.v) : (jbk G ω r (JCX G ω h0 c0 V2)).h = h0 ∧ (jbk G ω r (JCX G ω h0 c0 V2)).c = (JCX G ω h0 c0 (r :: V2)).c ∧ (jbk G ω r (JCX G ω h0 c0 V2)).l ≤ (JCX G ω h0 c0 (r :: V2)).l := by
  have hh := (JCX.cnt G ω h0 c0 V2).1
  have ll : (JCX G ω h0 c0 V2).l ≤ (JCX G ω h0 c0 (r :: V2)).l := Nat.le_add_right _ _
  unfold jbk
  by_cases q : r.v = 304
  · rw [if_pos q]
    exact ⟨hh, rfl, ll⟩
  · rw [if_neg q]
    have en : jen G ω r (JCX G ω h0 c0 V2).h (JCX G ω h0 c0 V2).l = [] := jen.no (fun z => by rw [z] at go; exact absurd go (by unfold isGo; decide)) (fun z => by
      rcases z with z | z | z | z <;> rw [z] at go <;> exact absurd go (by unfold isGo; decide)) q
    refine ⟨hh, ?_, ll⟩
    show (JCX G ω h0 c0 V2).c = jen G ω r (JCX G ω h0 c0 V2).h (JCX G ω h0 c0 V2).l ++ (JCX G ω h0 c0 V2).c
    rw [en]
    rfl
theorem jcn.cx {G : GHT} {ω h0 : Nat} {c0 : List Ent} {r : RVW} {V2 : List RVW} (lo : isLo r.v) : (jcn G ω r (JCX G ω h0 c0 V2)).h = h0 ∧ (jcn G ω r (JCX G ω h0 c0 V2)).c = (JCX G ω h0 c0 (r :: V2)).c ∧ (jcn G ω r (JCX G ω h0 c0 V2)).l ≤ (JCX G ω h0 c0 (r :: V2)).l := by
  have go : isGo r.v := Or.inr (Or.inr lo)
  obtain ⟨b1, b2, -⟩ := jbk.cx (G := G) (ω := ω) (h0 := h0) (c0 := c0) (V2 := V2) go
  have hl : (JCX G ω h0 c0 (r :: V2)).l = (JCX G ω h0 c0 V2).l + jlv r.v := rfl
  unfold jcn
  by_cases q : r.v = 206 ∨ r.v = 207
  · rw [if_pos q]
    have q4 : ¬ r.v = 304 := fun z => by rw [z] at q; exact absurd q (by decide)
    unfold jbk at b1 b2
    rw [if_neg q4] at b1 b2
    refine ⟨b1, b2, ?_⟩
    rw [hl]
    show (JCX G ω h0 c0 V2).l + 2528 ≤ _
    have : 2528 ≤ jlv r.v := by
      rcases q with q | q <;> rw [q] <;> decide
    omega
  · rw [if_neg q]
    refine ⟨b1, b2, ?_⟩
    rw [hl]
    have e1 : (jbk G ω r (JCX G ω h0 c0 V2)).l = (JCX G ω h0 c0 V2).l := by
      unfold jbk
      by_cases q4 : r.v = 304
      · rw [if_pos q4]
        rfl
      · rw [if_neg q4]
    show (jbk G ω r (JCX G ω h0 c0 V2)).l + 1264 ≤ _
    rw [e1]
    have : 1264 ≤ jlv r.v := by
      rcases lo with z | z | z | z <;> rw [z] <;> decide
    omega
def jup {α : Type} (kk : Nat) (v : α) (f : Nat → α) : Nat → α := fun j => if j = kk then v else f j
theorem jup.at {α : Type} {kk j : Nat} {v : α} {f : Nat → α} (h : j = kk) : jup kk v f j = v := if_pos h
theorem jup.ne {α : Type} {kk j : Nat} {v : α} {f : Nat → α} (h : ¬ j = kk) : jup kk v f j = f j := if_neg h
/-- heads of the chains -/
def jhd (s : RS) (g : Nat) (k : Bool) : Int32 := if k = true then s.a 48 g else s.a 49 g
/-- what a jump to the goal g changes beside the code -/
def JCH (g kk : Nat) (k : Bool) (s u : RS) : Prop := (u.i 43 = s.i 43) ∧ (∀ (g' : Nat) (k' : Bool), (g' : Int) < (s.i 43).toInt → ¬ (g' = g ∧ k' = k) → jhd u g' k' = jhd s g' k') ∧ (jhd u g k).toInt = (kk : Int) ∧ (∀ (g' : Nat) (k' : Bool), (g' : Int) < (s.i 43).toInt → jfl s g' k' = 1 → jfl u g' k' = 1) ∧ (∀ j : Nat, (j : Int) < (s.i 43).toInt → u.a 47 j = s.a 47 j) ∧ (s.i 59).toInt ≤ (u.i 59).toInt ∧ ∀ j : Nat, (j : Int) < (s.i 59).toInt → u.a 60 j = s.a 60 j ∧ u.a 61 j = s.a 61 j ∧ u.a 62 j = s.a 62 j
theorem JSI.jmp {Ψ : GPS} {V : List RVW} {col : Nat → Option (Nat × Bool)} {YJ : Nat → List Nat} {b s u : RS} {r : RVW} {k : Bool} {kk : Nat} {ys : List Nat} (h : JSI Ψ V col YJ b s) (hr : r ∈ V) (go : isGo r.v) (lo : k = false → isLo r.v) (gi : ∀ q ∈ V, isGo q.v → q.2.2.2 = r.2.2.2 → q = r) (jc : JCH r.2.2.2 kk k s u) (y20 : (s.i 20).toInt ≤ (u.i 20).toInt) (y29 : (s.i 29).toInt ≤ (u.i 29).toInt) (a22 : ∀ j : Nat, ¬ col j = none → u.a 22 j = s.a 22 j) (a31 : ∀ y : Nat, (y : Int) < (s.i 29).toInt → u.a 31 y = s.a 31 y) (nk9 : ∀ q ∈ V, ¬ rsite q kk) (l22 : u.a 22 kk = jhd s r.2.2.2 k) (k1 : (s.i 20).toInt ≤ (kk : Int)) (k2 : (kk : Int) < (u.i 20).toInt) (b20 : (b.i 20).toInt ≤ (kk : Int)) (nw : jfl u r.2.2.2 k = 1 ∨ JWT V ys u r r.2.2.2 k) : JSI Ψ V (jup kk (some (r.2.2.2, k)) col) (jup kk ys YJ) b u := by
  obtain ⟨h1, h2, hn⟩ := h
  obtain ⟨j43, jh, jn, jf, -, j59, jp⟩ := jc
  have nk : ∀ (j : Nat) (x : Nat × Bool), col j = some x → ¬ j = kk := fun j x e z => by
    have := (h2 j x.1 x.2 e).1.2
    omega
  have li : ∀ (l : List Nat) (v : Int32), (∀ j ∈ l, ∃ x : Nat × Bool, col j = some x) → lks s v l → lks u v l := fun l v hl z => lks.mv l v z (fun j hj => by
    obtain ⟨x, hx⟩ := hl j hj
    exact a22 j (by rw [hx]; exact fun z => by (cases z)))
  refine ⟨fun q hq gq => ?_, fun j g k' hc => ?_, fun q hq k9 p => ?_, hn.2⟩
  · obtain ⟨z0, l1, l2, z1, z2, z3⟩ := h1 q hq gq
    have m1 : lks u (s.a 48 q.2.2.2) l1 := li l1 _ (fun j hj => ⟨_, (z3 j).1.mpr hj⟩) z1
    have m2 : lks u (s.a 49 q.2.2.2) l2 := li l2 _ (fun j hj => ⟨_, (z3 j).2.mpr hj⟩) z2
    refine ⟨by rw [j43]; exact z0, ?_⟩
    have cj : ∀ (j : Nat) (k' : Bool), ¬ (q.2.2.2 = r.2.2.2 ∧ k' = k) → (jup kk (some (r.2.2.2, k)) col j = some (q.2.2.2, k') ↔ col j = some (q.2.2.2, k')) := fun j k' hn => by
      by_cases e : j = kk
      · rw [jup.at e]
        constructor
        · intro z
          have z' := Option.some.inj z
          exact absurd ⟨(congrArg Prod.fst z').symm, (congrArg Prod.snd z').symm⟩ hn
        · intro z
          exact absurd e (nk j _ z)
      · rw [jup.ne e]
    by_cases eg : q.2.2.2 = r.2.2.2
    · -- the row itself
      have cn : ∀ j : Nat, (jup kk (some (r.2.2.2, k)) col j = some (q.2.2.2, k) ↔ j = kk ∨ col j = some (q.2.2.2, k)) := fun j => by
        by_cases e : j = kk
        · rw [jup.at e, eg]
          exact ⟨fun _ => Or.inl e, fun _ => rfl⟩
        · rw [jup.ne e]
          exact ⟨Or.inr, fun z => z.resolve_left e⟩
      have hd : (jhd u q.2.2.2 k).toInt = (kk : Int) := by rw [eg]; exact jn
      have l22' : u.a 22 kk = jhd s q.2.2.2 k := by rw [eg]; exact l22
      cases k with
      | true =>
        have o9 : jhd u q.2.2.2 false = jhd s q.2.2.2 false := jh _ _ z0 (fun z => by cases z.2)
        have o9' : u.a 49 q.2.2.2 = s.a 49 q.2.2.2 := o9
        refine ⟨kk :: l1, l2, ⟨hd, ?_⟩, by rw [o9']; exact m2, fun j => ⟨?_, ?_⟩⟩
        · rw [l22']
          exact m1
        · rw [cn j, (z3 j).1, List.mem_cons]
        · rw [cj j false (fun z => by cases z.2)]
          exact (z3 j).2
      | false =>
        have o9 : jhd u q.2.2.2 true = jhd s q.2.2.2 true := jh _ _ z0 (fun z => by cases z.2)
        have o9' : u.a 48 q.2.2.2 = s.a 48 q.2.2.2 := o9
        refine ⟨l1, kk :: l2, by rw [o9']; exact m1, ⟨hd, ?_⟩, fun j => ⟨?_, ?_⟩⟩
        · rw [l22']
          exact m2
        · rw [cj j true (fun z => by cases z.2)]
          exact (z3 j).1
        · rw [cn j, (z3 j).2, List.mem_cons]
    · have o8 : jhd u q.2.2.2 true = jhd s q.2.2.2 true := jh _ _ z0 (fun z => eg z.1)
      have o9 : jhd u q.2.2.2 false = jhd s q.2.2.2 false := jh _ _ z0 (fun z => eg z.1)
      have o8' : u.a 48 q.2.2.2 = s.a 48 q.2.2.2 := o8
      have o9' : u.a 49 q.2.2.2 = s.a 49 q.2.2.2 := o9
      exact ⟨l1, l2, by rw [o8']; exact m1, by rw [o9']; exact m2, fun j => ⟨(cj j true (fun z => eg z.1)).trans (z3 j).1, (cj j false (fun z => eg z.1)).trans (z3 j).2⟩⟩
  · by_cases e : j = kk
    · have hc' : some (r.2.2.2, k) = some (g, k') := (jup.at e).symm.trans hc
      cases hc'
      refine ⟨by rw [e]; exact ⟨b20, k2⟩, r, hr, ⟨go, lo⟩, rfl, ?_⟩
      rw [jup.at (v := ys) (f := YJ) e]
      rcases nw with z | z
      · exact Or.inl z
      · exact Or.inr (Or.inl z)
    · have hc' : col j = some (g, k') := (jup.ne e).symm.trans hc
      obtain ⟨⟨z1, z2⟩, q, hq, gq, eg, z3⟩ := h2 j g k' hc'
      have z0 := (h1 q hq gq.1).1
      rw [eg] at z0
      refine ⟨⟨z1, by omega⟩, q, hq, gq, eg, ?_⟩
      rw [jup.ne (v := ys) (f := YJ) e]
      rcases z3 with z3 | ⟨i, i1, i2, i3, r', hr', i4, i5, i6, i7⟩ | ⟨w, hw, w1, w2, w3, w4⟩
      · exact Or.inl (jf g k' z0 z3)
      · obtain ⟨e1, e2, e3⟩ := jp i i1
        exact Or.inr (Or.inl ⟨i, by omega, by rw [e1]; exact i2, by rw [e2]; exact i3, r', hr', i4, i5, by rw [e3]; exact i6, i7⟩)
      · exact Or.inr (Or.inr ⟨w, hw, ⟨w1.1, by omega⟩, w2, by rw [a31 w w1.2]; exact w3, w4⟩)
  · by_cases e : k9 = kk
    · rw [e] at p
      exact absurd p (nk9 q hq)
    · rw [jup.ne e]
      exact hn.1 q hq k9 p
section
variable {A : JBA} {U : RS} {B : CS} {b : RS} {V0 : List RVW} {s0 : RS} {a e : Int} {P : CS} {q : RS}
set_option maxHeartbeats 1000000 in
/-- a jump -/
theorem JRG.jmp {N : Nat} {V1 V2 : List RVW} {r : RVW} {k : Bool} {x v0 : Int32} {p : Unit × CS} {yE : Int32 × RS} {R : CS} {u : RS} (h : JRG A U B b V0 s0 [] (JQG U 1264 0 1 (pcC P) (pcR q) JQZ) a e P q) (la : a ≤ -1) (le : e ≤ 0) (hV : V0 = V1 ++ r :: V2) (go : isGo r.v) (lo : k = false → isLo r.v) (gi : ∀ y ∈ V0, isGo y.v → y.2.2.2 = r.2.2.2 → y = r) (n305 : ∀ y ∈ V1, ¬ y.v = 305) (hx : x = if k = true then r.1 9 else r.1 10) (e1 : (r.1 2 = P.i 38 ∧ f_X0_add N P 30 x = some p) ∨ f_X0_add N P 60 (x * 32 + r.1 2) = some p) (h44 : (P.i 44).toInt ≤ 900) (hz : f_X12_emit N q 36 v0 = some yE) (hv0 : v0 = jhd s0 r.2.2.2 k) (h20 : 0 ≤ (q.i 20).toInt ∧ (q.i 20).toInt < 3000) (n50 : P.i 50 = q.i 38) (kp : pe R = pe p.2) (i21 : R.i 21 = p.2.i 21) (i50 : R.i 50 = p.2.i 50) (i44 : R.i 44 = p.2.i 44) (a48 : R.a 48 = p.2.a 48) (a49 : R.a 49 = p.2.a 49) (r36 : R.i 36 = 0) (qu : qe u = qe (RS.setA yE.2 23 (pcR q) (s0.a 47 r.2.2.2))) (nv : NMV q u) (jc : JCH r.2.2.2 (pcR q) k s0 u) (nw : jfl u r.2.2.2 k = 1 ∨ JWT V0 (wly V1) u r r.2.2.2 k) (l11 : (s0.i 11).toInt ≤ (u.i 11).toInt) (l19 : (s0.i 19).toInt ≤ (u.i 19).toInt) : JRW A U B b V0 R u := by
  intro crB
  obtain ⟨b1, ⟨b2, n8⟩, b3, b4, Ψ, G, col, YJ, sax, ⟨pin, pin0⟩, tgi, ⟨jsi, bD, hds⟩, main⟩ := h crB
  obtain ⟨⟨r0, r1⟩, r2, r3, r4, r5⟩ := crB.rms b1
  have hr : r ∈ V0 := by rw [hV]; exact List.mem_append_right _ List.mem_cons_self
  -- the class's instruction
  obtain ⟨o, w, ea, ow⟩ : ∃ o w : Int32, f_X0_add N P o w = some p ∧ ((o = 30 ∧ w = x ∧ r.1 2 = P.i 38) ∨ (o = 60 ∧ w = x * 32 + r.1 2)) := by
    rcases e1 with ⟨z1, z2⟩ | z2
    · exact ⟨_, _, z2, Or.inl ⟨rfl, rfl, z1⟩⟩
    · exact ⟨_, _, z2, Or.inr ⟨rfl, rfl⟩⟩
  obtain ⟨d1, d2, ⟨d3, d3'⟩, d4, d5, d6⟩ := cd_add ea r0 (by omega)
  obtain ⟨p20, p15, p16, p17, p23, p38, p22, p19⟩ := pe_eq kp
  have cR : CD1 1 0 P R := (d1.tr (CD1.pe (b := 0) kp i21 i50 a48 a49 (by rw [i44]; omega))).wk (by omega) (by omega)
  have tR : ∀ a b : Int, CT7 a b P R := fun a b => CT7.eq (p17.trans d4)
  have R20 : (R.i 20).toInt = (P.i 20).toInt + 1 := by rw [p20]; exact d2
  have pP : ((pcC P : Nat) : Int) = (P.i 20).toInt := Int.toNat_of_nonneg r0
  -- the reference's
  obtain ⟨m1, m2, m3, m4, m5, m6⟩ := cd_emit hz h20.1 h20.2
  have pq : ((pcR q : Nat) : Int) = (q.i 20).toInt := Int.toNat_of_nonneg h20.1
  have c23 : CD2 (q.i 20).toInt yE.2 (RS.setA yE.2 23 (pcR q) (s0.a 47 r.2.2.2)) := by
    obtain ⟨y3, hy3⟩ : ∃ y, y = RS.setA yE.2 23 (pcR q) (s0.a 47 r.2.2.2) := ⟨_, rfl⟩
    have yi : y3.i = yE.2.i := by rw [hy3]; rfl
    have ya : ∀ m : Nat, m ≠ 23 → y3.a m = yE.2.a m := by
      rw [hy3]
      exact fun m hm => setA_nk hm
    have y23 : ∀ j : Nat, ¬ j = pcR q → y3.a 23 j = yE.2.a 23 j := by
      rw [hy3]
      exact fun j hj => setA_ne hj
    rw [← hy3]
    clear hy3
    refine ⟨⟨by rw [yi]; exact Int.le_refl _, by rw [yi]; exact Int.le_refl _, by rw [yi]; exact Int.le_refl _, by rw [yi]; exact Int.le_refl _, SLC.eq (by rw [yi]) (by rw [yi]; exact Int.le_refl _), by rw [yi]⟩, fun j hj => ⟨by rw [ya 21 (by decide)], by rw [ya 22 (by decide)], y23 j (fun z => by omega)⟩, fun j _ => ⟨by rw [ya 25 (by decide)], by rw [ya 26 (by decide)], by rw [ya 27 (by decide)], by rw [ya 28 (by decide)]⟩, fun j _ => ⟨by rw [ya 30 (by decide)], by rw [ya 31 (by decide)], by rw [ya 32 (by decide)]⟩, fun j _ => ⟨by rw [ya 34 (by decide)], by rw [ya 35 (by decide)], by rw [ya 36 (by decide)], by rw [ya 37 (by decide)]⟩⟩
  have cu : CD2 (q.i 20).toInt q u := (m1.tr c23).tr (CD2.qe qu)
  obtain ⟨⟨u20, -, -, -, -, -⟩, u21, u22, u23, -⟩ := qe_eq qu
  have U20 : (u.i 20).toInt = (q.i 20).toInt + 1 := by rw [u20]; exact m3
  have k21 : u.a 21 (pcR q) = 36 := by rw [u21]; exact m4
  have k22 : u.a 22 (pcR q) = v0 := by
    rw [u22, setA_nk (by decide)]
    exact m5
  have k23 : u.a 23 (pcR q) = s0.a 47 r.2.2.2 := by
    rw [u23]
    exact setA_at
  have lb := b3.1.1
  have l4 := b4.1.1
  have l21 := b1.2.2.1
  have b5 : KDC s0 u := b4.tr cu.k
  obtain ⟨js1, js2, js3, js4⟩ := jsi
  have j22 : ∀ j : Nat, ¬ col j = none → u.a 22 j = s0.a 22 j := fun j hj => ((cu.2.1 j (by have := pin.1 j (Or.inl hj); omega)).2.1).trans (js3 j hj)
  have j31 : ∀ w : Nat, (w : Int) < (s0.i 29).toInt → u.a 31 w = s0.a 31 w := fun w w1 => ((cu.2.2.2.1 w (by have := b4.1.2.2.1; omega)).2.1).trans (js4 w w1 (fun ⟨q, hq, _⟩ => absurd hq List.not_mem_nil))
  have jsi : JSI Ψ V0 col YJ b s0 := js1
  have nc : ∀ i : Nat, ¬ col i = none → ¬ i = pcR q := fun i hi z => by
    have := pin.1 i (Or.inl hi)
    omega
  have pe1 : ∀ (V : List RVW) (i : Nat), ¬ i = pcR q → (PEN V (jup (pcR q) (some (r.2.2.2, k)) col) i ↔ PEN V col i) := fun V i hi => by
    unfold PEN
    rw [jup.ne hi]
  refine ⟨⟨0, Or.inl rfl, (b1.tr cR.k).wk (by omega) (by omega)⟩, ⟨b2.tr ((tR 0 (P.i 21).toInt).wk (Int.le_refl _) l21), n8.nk (NK.of cR cu n50 (Or.inl nv.1))⟩, b3.tr (cu.k.wk lb), GPS.an Ψ GPS.tt, G, jup (pcR q) (some (r.2.2.2, k)) col, jup (pcR q) (wly V1) YJ, sax.an (SAT.tt _ _ _ _ cu.1.2.2.2.2.1) (MNO.ofk b1 b3) (MNO.ofk cR.k cu.k) pin.2.2.1, ⟨fun i z => ?_, fun i z => by have := pin.2.1 i z; have := cu.1.2.1; omega, fun i z => by have := pin.2.2.1 i z; have := cu.1.2.2.1; omega, fun i z => by have := pin.2.2.2 i z; have := cu.1.2.2.2.1; omega⟩, tgi.mv crB.1.1.2.1 cR.2.2.1 (tR _ _), ⟨(jsi.mv (GKP.rf _) (KD2.rf _ _) (fun _ _ z => z.1)).jmp (ys := wly V1) hr go lo gi jc b5.1.1 b5.1.2.2.1 j22 j31 (fun q' hq' p => by have := pin.1 (pcR q) (Or.inr ⟨q', hq', p⟩); omega) (k22.trans hv0) (by omega) (by omega) (by omega) nw, ⟨0, Or.inl rfl, (bD.tr cR.k).wk (by omega) (by omega)⟩, hds.1.mv crB.1.1.2.1 cR.2.2.1 cR.1.1 (tR _ _) (fun r hr _ _ => hr), hds.2.kd cR.k cu.k⟩, ?_⟩
  · by_cases hi : i = pcR q
    · omega
    · have := pin.1 i ((pe1 V0 i hi).mp z)
      omega
  intro FC SF nm X h0 ω c0 psi ng0 hc0 hh0 hω
  obtain ⟨⟨ng, hc, hh, wn⟩, mn⟩ := main FC SF nm X h0 ω c0 psi.1 ng0 hc0 hh0 hω
  obtain ⟨k0, k1, k2⟩ := JCX.cnt G ω h0 c0 V0
  have dp := wn.2
  refine ⟨⟨(ng.1.mv n50 cR cu nv.1 nv.2).g (Int.le_trans ng.2 l19), hc, Int.le_trans hh l11, dp.mv V0 (fun y hy gy => jc.2.2.2.2.1 _ (jsi.1 y hy gy).1) l11⟩, fun fc fg hA tyc jr _ => ?_⟩
  have jr0 : JRS FC SF U nm X G col YJ ω h0 c0 V0 := JRS.cl (fun i hi => ⟨jup.ne (nc i hi), jup.ne (nc i hi)⟩) V0 jr
  have fc1 : FGD V0 B P SF := fc.pre cR.k (tR _ _) (fun _ hy => Or.inl hy)
  have fg0 := fg.fst cu.k (Int.le_refl _)
  have fg1 : FGP V0 col b q U := by
    obtain ⟨h1, h4, h5⟩ := fg0
    exact ⟨h1, fun j j1 j2 => ⟨(h4 j j1 j2).1, fun z => (h4 j j1 j2).2.1 (fun y => z ((pe1 V0 j (fun e => by omega)).mp y)), (h4 j j1 j2).2.2⟩, h5⟩
  refine mn fc1 fg1 hA tyc jr0 ?_
  -- the unit
  have f2 := fc.2.1 (pcC P) (by have := b1.1.1; omega) (by omega)
  have fr := fg.2.1 (pcR q) (by omega) (by omega)
  have fz := fg.1
  have c15 : SF.a 15 (pcC P) = o := by rw [f2.1, p15]; exact d3
  have c16 : SF.a 16 (pcC P) = w := by rw [f2.2, p16]; exact d3'
  have g21 : U.a 21 (pcR q) = 36 := by rw [fr.1]; exact k21
  have g23 : U.a 23 (pcR q) = s0.a 47 r.2.2.2 := by
    rw [fr.2.2 (fun z => by have := pin.1 _ z.pen; omega)]
    exact k23
  have pqx : PQX SF U (pcC P) (pcR q) := ⟨by have := fc.1.2; omega, by omega, fz.2.2⟩
  have ty := JRS.ty tyc V0 jr0
  rw [hV] at dp jr
  obtain ⟨⟨q1, q2⟩, q3, q4⟩ := dp.mid V1 go
  have n1 := ng.1.2.1
  obtain ⟨-, k1', k2'⟩ := JCX.cnt G ω h0 c0 (r :: V2)
  have hd0 : sfr (r :: V2) = sfr V2 := by
    show sfr V2 + dfr r.v = sfr V2
    rw [dfr.go go]
    rfl
  have sV : sfr V0 = sfr V1 + sfr V2 := by rw [hV, sfr.app, hd0]
  have fr22 := hc.2.2.1
  have jgl := (JRS.mid V1 jr).2.2.2.2.2.2.2.2 go (pcR q)
  have ec : jup (pcR q) (some (r.2.2.2, k)) col (pcR q) = some (r.2.2.2, k) := jup.at rfl
  have ey : jup (pcR q) (wly V1) YJ (pcR q) = wly V1 := jup.at rfl
  have tg : (∀ y ∈ V1, isWl y.v → 0 ≤ (U.a 31 (y.2.1 66).toNatClampNeg).toInt → FC (y.2.1 66).toNatClampNeg) → ∃ (p' q' l2 : Nat), l2 ≤ (JCX G ω h0 c0 (r :: V2)).l ∧ (cTg SF x).toInt = (p' : Int) ∧ (U.a 22 (pcR q)).toInt = (q' : Int) ∧ GU FC SF U nm X p' q' h0 (ω + l2 - p') 0 (JCX G ω h0 c0 (r :: V2)).c := fun hw => by
    have fy : FCY FC U (jup (pcR q) (wly V1) YJ (pcR q)) := by
      rw [ey]
      intro y hy h31
      obtain ⟨z, hz, z1, z2⟩ := (wly.mem V1 y).mp hy
      rw [z2] at h31 ⊢
      exact hw z hz z1 h31
    have jg := jgl fy
    cases k with
    | true =>
      obtain ⟨p', q', t1, t2, t3⟩ := jg.1 ec
      obtain ⟨b1', b2', b3'⟩ := jbk.cx (G := G) (ω := ω) (h0 := h0) (c0 := c0) (V2 := V2) go
      rw [b1', b2'] at t3
      exact ⟨p', q', _, b3', by rw [hx]; exact t1, t2, t3⟩
    | false =>
      obtain ⟨p', q', t1, t2, t3⟩ := jg.2 ec
      obtain ⟨b1', b2', b3'⟩ := jcn.cx (G := G) (ω := ω) (h0 := h0) (c0 := c0) (V2 := V2) (lo rfl)
      rw [b1', b2'] at t3
      exact ⟨p', q', _, b3', by rw [hx]; exact t1, t2, t3⟩
  have nx5 : NT5 x := by
    rw [hx]
    cases k with
    | true => exact q3
    | false => exact q4.1 (lo rfl)
  have hc' : HC0 nm h0 (JCX G ω h0 c0 (V1 ++ r :: V2)).c := by
    rw [← hV]
    have z := hc
    rw [k0] at z
    exact z
  rw [hV] at ty
  have gu := gu_jmp2 (g := 1) pqx hc' ty g21 (by rw [g23, q2, k2']) n305 (x := x) (by
    rcases ow with ⟨z1, z2, z3⟩ | ⟨z1, z2⟩
    · refine Or.inl ⟨c15.trans z1, c16.trans z2, ?_⟩
      rw [z3] at q1
      omega
    · have d32 : 0 ≤ (r.1 2).toInt ∧ (r.1 2).toInt < 32 := ⟨by omega, by omega⟩
      obtain ⟨y1, y2⟩ := lv5 nx5 d32
      refine Or.inr ⟨c15.trans z1, ?_, by rw [c16, z2]; exact y1⟩
      rw [c16, z2, y2, q1, k1', hd0]) tg
  rw [← hV] at gu
  rw [k0]
  exact gu
end
end
section
/-! both readers: a row closes -/
/-- what the base knows stays where more is good -/
def JBM (U : RS) (A : JBA) : Prop := ∀ (FC : Nat → Prop) (SF : CS) (nm : Nat → Nat → Prop) (X Y : Als) (h0 ω : Nat) (c0 : List Ent), S01 (GU FC SF U nm X) (GU FC SF U nm Y) → A FC SF nm X h0 ω c0 → A FC SF nm Y h0 ω c0
theorem lks.det {s : RS} : ∀ (l m : List Nat) (v : Int32), lks s v l → lks s v m → l = m
  | [], [], _, _, _ => rfl
  | [], j :: m, v, h, g => by
    have h1 : v.toInt < 0 := h
    have := g.1
    omega
  | j :: l, [], v, h, g => by
    have g1 : v.toInt < 0 := g
    have := h.1
    omega
  | j :: l, i :: m, v, h, g => by
    have e : j = i := by
      have h1 := h.1
      have g1 := g.1
      omega
    subst e
    rw [lks.det l m _ h.2 g.2]
/-- this place, inside the row -/
def JCU (FC : Nat → Prop) (SF : CS) (U : RS) (nm : Nat → Nat → Prop) (X : Als) (G : GHT) (ω : Nat) (r : RVW) (j : JCT) (S : CS) (s : RS) : Prop := S.i 36 = 1 → GU2 FC SF U nm X (pcC S) (pcR s) j.h (ω + (j.l + jlv r.v) - pcC S) (jen G ω r j.h j.l ++ j.c)
/-- where the jumps to the row lead, if one arrives -/
def JGV (FC : Nat → Prop) (SF : CS) (U : RS) (nm : Nat → Nat → Prop) (X : Als) (G : GHT) (ω : Nat) (r : RVW) (j : JCT) (s : RS) (vb vc : Int32) : Prop := (jfl s r.2.2.2 true = 1 → ∃ p q : Nat, (cTg SF (r.1 9)).toInt = (p : Int) ∧ vb.toInt = (q : Int) ∧ GU FC SF U nm X p q (jbk G ω r j).h (ω + (jbk G ω r j).l - p) 0 (jbk G ω r j).c) ∧ (isLo r.v → jfl s r.2.2.2 false = 1 → ∃ p q : Nat, (cTg SF (r.1 10)).toInt = (p : Int) ∧ vc.toInt = (q : Int) ∧ GU FC SF U nm X p q (jcn G ω r j).h (ω + (jcn G ω r j).l - p) 0 (jcn G ω r j).c)
def noc : Nat → Option (Nat × Bool) := fun _ => none
def noy : Nat → List Nat := fun _ => []
/-- what is known when a row closes -/
def KCL (U : RS) (r : RVW) (S : CS) (s : RS) (vb vc vs : Int32) : JKT := fun FC SF nm X ω j Z => ((∀ k : Nat, rsite r k → U.a 22 k = vs) ∧ (∀ x : Int32, rhd r x → ∃ p : Nat, (cTg SF x).toInt = (p : Int) ∧ p ≤ 1200 ∧ p ≤ pcC S) ∧ (isGo r.v → RHP r.v r.2.1) ∧ (dfr r.v = 1 → (r.1 2).toInt = (frs j.c : Int) ∧ NT5 (r.1 9))) ∧ ∃ G : GHT, HC0 nm j.h (jen G ω r j.h j.l ++ j.c) ∧ (∀ Y : Als, S01 (GU FC SF U nm X) (GU FC SF U nm Y) → JRH FC SF U nm Y G noc noy ω r j → (isGo r.v → JGV FC SF U nm Y G ω r j s vb vc) → JCU FC SF U nm Y G ω r j S s → JHH FC SF U nm Y G ω r j) ∧ (JRH FC SF U nm X G noc noy ω r j → (isGo r.v → JGV FC SF U nm X G ω r j s vb vc) → JCU FC SF U nm X G ω r j S s → Z)
/-- the colours of a goal go -/
def unc (g : Nat) (col : Nat → Option (Nat × Bool)) : Nat → Option (Nat × Bool) := fun j => if col j = some (g, true) ∨ col j = some (g, false) then none else col j
theorem unc.s {g j : Nat} {col : Nat → Option (Nat × Bool)} {x : Nat × Bool} (h : unc g col j = some x) : col j = some x ∧ ¬ x.1 = g := by
  unfold unc at h
  by_cases q : col j = some (g, true) ∨ col j = some (g, false)
  · rw [if_pos q] at h
    cases h
  · rw [if_neg q] at h
    refine ⟨h, fun e => q ?_⟩
    rw [h, ← e]
    obtain ⟨x1, x2⟩ := x
    cases x2 with
    | true => exact Or.inl rfl
    | false => exact Or.inr rfl
theorem unc.k {g j : Nat} {col : Nat → Option (Nat × Bool)} {x : Nat × Bool} (h : col j = some x) (n : ¬ x.1 = g) : unc g col j = some x := by
  unfold unc
  rw [if_neg (fun e => n (by
    rw [h] at e
    rcases e with e | e <;> (cases e; rfl)))]
  exact h
theorem unc.n {g j : Nat} {col : Nat → Option (Nat × Bool)} (h : col j = none) : unc g col j = none := by
  unfold unc
  rw [if_neg (fun e => by
    rw [h] at e
    rcases e with e | e <;> cases e)]
  exact h
theorem unc.z {g j : Nat} {k : Bool} {col : Nat → Option (Nat × Bool)} (h : col j = some (g, k)) : unc g col j = none := if_pos (by
  cases k with
  | true => exact Or.inl h
  | false => exact Or.inr h)
theorem ops.app : ∀ (a b : List Ent), ops (a ++ b) = ops a + ops b
  | [], b => (Nat.zero_add _).symm
  | e :: a, b => by
    have ih := ops.app a b
    have e1 : ops ((e :: a) ++ b) = ops (a ++ b) + (if e.k = 1 then e.z else 0) := rfl
    have e2 : ops (e :: a) = ops a + (if e.k = 1 then e.z else 0) := rfl
    rw [e1, e2, ih]
    omega
theorem msr.app (a b : List Ent) : msr b ≤ msr (a ++ b) := by
  unfold msr
  rw [List.length_append, ops.app]
  omega
/-- the row's targets -/
def tvs : List Int32 → List RVW
  | [] => []
  | x :: l => tv x :: tvs l
theorem tvs.mem {r : RVW} : ∀ (l : List Int32), r ∈ tvs l → ∃ x : Int32, r = tv x
  | [], h => absurd h List.not_mem_nil
  | x :: l, h => by
    rcases List.mem_cons.mp h with e | h
    · exact ⟨x, e⟩
    · exact tvs.mem l h
theorem tvs_ptl : ∀ (l : List Int32), ptl (tvs l) = l
  | [] => rfl
  | x :: l => by
    show rtgs (tv x) ++ ptl (tvs l) = x :: l
    rw [tv.tgs, tvs_ptl l]
    rfl
theorem tvs.rj : ∀ (l : List Int32), rjw (tvs l) = []
  | [] => rfl
  | x :: l => (tv.rj x (tvs l)).trans (tvs.rj l)
theorem JRS.cw {FC : Nat → Prop} {SF : CS} {U : RS} {nm : Nat → Nat → Prop} {X : Als} {G : GHT} {col col' : Nat → Option (Nat × Bool)} {YJ : Nat → List Nat} {ω h0 : Nat} {c0 : List Ent} : ∀ (V : List RVW), (∀ (i : Nat) (q : RVW) (k : Bool), q ∈ V → isGo q.v → col i = some (q.2.2.2, k) → col' i = some (q.2.2.2, k)) → JRS FC SF U nm X G col' YJ ω h0 c0 V → JRS FC SF U nm X G col YJ ω h0 c0 V
  | [], _, _ => True.intro
  | r :: V, hc, h => by
    obtain ⟨⟨h1, h2, h3, h4, h5, h6, h7, h8, h9⟩, h0'⟩ := h
    exact ⟨⟨h1, h2, h3, h4, h5, h6, h7, h8, fun go i fy => ⟨fun e => (h9 go i fy).1 (hc i r true List.mem_cons_self go e), fun e => (h9 go i fy).2 (hc i r false List.mem_cons_self go e)⟩⟩, JRS.cw V (fun i q k hq => hc i q k (List.mem_cons_of_mem _ hq)) h0'⟩
/-- and a switch's head -/
def KCL8 (β : Int) (U : RS) (r : RVW) (S : CS) (s u : RS) (vb vc vs : Int32) : JKT := fun FC SF nm X ω j Z => ((∀ k : Nat, rsite r k → U.a 22 k = vs) ∧ (∀ x : Int32, rhd r x → ∃ p : Nat, (cTg SF x).toInt = (p : Int) ∧ p ≤ 1200 ∧ p ≤ pcC S) ∧ (isGo r.v → RHP r.v r.2.1) ∧ (dfr r.v = 1 → (r.1 2).toInt = (frs j.c : Int) ∧ NT5 (r.1 9))) ∧ ∃ G : GHT, HC0 nm j.h (jen G ω r j.h j.l ++ j.c) ∧ (∀ Y : Als, S01 (GU FC SF U nm X) (GU FC SF U nm Y) → JRH FC SF U nm Y G noc noy ω r j → (isGo r.v → JGV FC SF U nm Y G ω r j s vb vc) → JCU FC SF U nm Y G ω r j S s → JHH FC SF U nm Y G ω r j) ∧ (JRH FC SF U nm X G noc noy ω r j → (isGo r.v → JGV FC SF U nm X G ω r j s vb vc) → JCU FC SF U nm X G ω r j S s → Z) ∧ (r.v = 218 → U.a 23 (r.2.1 66).toNatClampNeg = u.a 23 (r.2.1 66).toNatClampNeg ∧ SWG β G S s r ∧ ∀ M : List Nat, chn s (s.a 22 (r.2.1 66).toNatClampNeg) M → ∀ j ∈ M, U.a 25 j = s.a 25 j ∧ U.a 26 j = s.a 26 j ∧ U.a 27 j = s.a 27 j ∧ U.a 28 j = s.a 28 j)
/-- only second words are other, and the third of a switch's head -/
def S23 (r : RVW) (s u : RS) : Prop := u.i = s.i ∧ (∀ k : Nat, k ≠ 22 → k ≠ 23 → u.a k = s.a k) ∧ ∀ j : Nat, ¬ (r.v = 218 ∧ (j : Int) = (r.2.1 66).toInt) → u.a 23 j = s.a 23 j
/-- only second words are other -/
def S22 (s u : RS) : Prop := u.i = s.i ∧ ∀ k : Nat, k ≠ 22 → u.a k = s.a k
section
variable {A : JBA} {U : RS} {B : CS} {b : RS} {V : List RVW} {r : RVW} {S S' : CS} {s u u' : RS} {l1 l2 : List Nat} {vb vc vs : Int32}
set_option maxHeartbeats 2000000 in
/-- a row that is no try closes: what waits for it is aimed -/
theorem JRW.clo8 (h : JRW A U B b (r :: V) S s) (n8' : N8 B b (r :: V) S s → N8 B b V S' u') (h44 : (S.i 44).toInt ≤ 900) (mA : JBM U A) (pl : ∀ q ∈ V, q.2.2.1 < r.2.2.1) (gi : isGo r.v → ∀ q ∈ V, isGo q.v → ¬ q.2.2.2 = r.2.2.2) (nt : ¬ isTyv r) (hl : isGo r.v → lks s (s.a 48 r.2.2.2) l1 ∧ (isLo r.v → lks s (s.a 49 r.2.2.2) l2)) (e22 : S23 r s u) (u1 : isGo r.v → ∀ j ∈ l1, u.a 22 j = vb) (u2 : isLo r.v → ∀ j ∈ l2, u.a 22 j = vc) (u3 : ∀ j : Nat, rsite r j → u.a 22 j = vs ∧ (b.i 20).toInt ≤ (j : Int)) (u4 : ∀ j : Nat, (isGo r.v → ¬ j ∈ l1) → (isLo r.v → ¬ j ∈ l2) → ¬ rsite r j → u.a 22 j = s.a 22 j) (dS : D38 S S') (du : D52 u u') (e19 : (u'.i 19 = u.i 19 ∨ (b.i 19).toInt + (sfr V : Int) ≤ (u'.i 19).toInt) ∧ u'.i 11 = u.i 11 ∧ u'.i 43 = u.i 43 ∧ u'.i 59 = u.i 59) (eA : ∀ k : Nat, 47 ≤ k → k ≤ 62 → u'.a k = u.a k) (hN : ∀ (nm : Nat → Nat → Prop) (G : GHT) (ω : Nat) (j : JCT), NMG nm (jen G ω r j.h j.l ++ j.c) S s → HC0 nm j.h (jen G ω r j.h j.l ++ j.c) → NMH nm j.c S' u' ∧ HC0 nm j.h j.c) {e dr : Int} (hdr : ∀ G : GHT, (r.v = 218 → SWG (b.i 24).toInt G S s r) → dr ≤ dbr (G r.2.2.1) r.v) (h1 : e = 1 ∨ (e = 0 ∧ ALN (S.i 43))) (h8 : r.v = 218 → ∀ L : List Nat, chn s (s.a 22 (r.2.1 66).toNatClampNeg) L → ∀ j ∈ L, ¬ PCZ V j) : JRG A U B b V u' (tvs (rtgs r)) (KCL8 (b.i 24).toInt U r S s u vb vc vs) (-dr) e S' u' := by
  intro crB
  obtain ⟨⟨eB, hB1, b1⟩, ⟨b2, n8⟩, b3, Ψ, G, col, YJ, sax, pin, tgi, ⟨jsi, ⟨eD, hD1, bD⟩, hds⟩, main⟩ := h crB
  have leD : ∀ x : Int, (x = 0 ∨ (x = 1 ∧ ¬ ALN (S.i 43))) → x ≤ e := fun x hx => by
    rcases hx with z | ⟨z, z'⟩ <;> rcases h1 with q | ⟨q, q'⟩
    · omega
    · omega
    · omega
    · exact absurd q' z'
  obtain ⟨ei, ea, ea23⟩ := e22
  have rs8 : ∀ k : Nat, r.v = 218 ∧ (k : Int) = (r.2.1 66).toInt → rsite r k := fun k z => Or.inl ⟨Or.inr (Or.inr z.1), z.2⟩
  obtain ⟨j1, j2, j3, j4⟩ := jsi
  have b20 : 0 ≤ (b.i 20).toInt ∨ (b.i 20).toInt < 0 := by omega
  -- the chains
  have hl1 : isGo r.v → ∀ j : Nat, (col j = some (r.2.2.2, true) ↔ j ∈ l1) := fun go j => by
    obtain ⟨-, m1, m2, z1, z2, z3⟩ := j1 r List.mem_cons_self go
    rw [lks.det l1 m1 _ (hl go).1 z1]
    exact (z3 j).1
  have hl2 : isLo r.v → ∀ j : Nat, (col j = some (r.2.2.2, false) ↔ j ∈ l2) := fun lo j => by
    have go : isGo r.v := Or.inr (Or.inr lo)
    obtain ⟨-, m1, m2, z1, z2, z3⟩ := j1 r List.mem_cons_self go
    rw [lks.det l2 m2 _ ((hl go).2 lo) z2]
    exact (z3 j).2
  have hlo : ∀ j : Nat, isGo r.v → col j = some (r.2.2.2, false) → isLo r.v := fun j go hj => by
    obtain ⟨-, q, hq, gq, eq, -⟩ := j2 j _ _ hj
    rcases List.mem_cons.mp hq with z | z
    · rw [← z]
      exact gq.2 rfl
    · exact absurd eq (gi go q z gq.1)
  have cg : ∀ (j : Nat) (x : Nat × Bool), col j = some x → (x.1 = r.2.2.2 ∧ isGo r.v) ∨ (¬ (x.1 = r.2.2.2 ∧ isGo r.v) ∧ ∃ q ∈ V, isGo q.v ∧ q.2.2.2 = x.1) := fun j x hx => by
    obtain ⟨-, q, hq, gq, eq, -⟩ := j2 j x.1 x.2 hx
    rcases List.mem_cons.mp hq with z | z
    · rw [z] at gq eq
      exact Or.inl ⟨eq.symm, gq.1⟩
    · by_cases c : x.1 = r.2.2.2 ∧ isGo r.v
      · exact Or.inl c
      · exact Or.inr ⟨c, q, z, gq.1, eq⟩
  -- colours of the rows below
  obtain ⟨col', hc1, hc2⟩ : ∃ col' : Nat → Option (Nat × Bool), (isGo r.v → col' = unc r.2.2.2 col) ∧ (¬ isGo r.v → col' = col) := by
    by_cases go : isGo r.v
    · exact ⟨_, fun _ => rfl, fun z => absurd go z⟩
    · exact ⟨_, fun z => absurd z go, fun _ => rfl⟩
  have cs : ∀ (j : Nat) (x : Nat × Bool), col' j = some x → col j = some x ∧ ¬ (x.1 = r.2.2.2 ∧ isGo r.v) := fun j x hx => by
    by_cases go : isGo r.v
    · rw [hc1 go] at hx
      obtain ⟨y1, y2⟩ := unc.s hx
      exact ⟨y1, fun z => y2 z.1⟩
    · rw [hc2 go] at hx
      exact ⟨hx, fun z => go z.2⟩
  have ck : ∀ (j : Nat) (x : Nat × Bool), col j = some x → ¬ (x.1 = r.2.2.2 ∧ isGo r.v) → col' j = some x := fun j x hx hn => by
    by_cases go : isGo r.v
    · rw [hc1 go]
      exact unc.k hx (fun z => hn ⟨z, go⟩)
    · rw [hc2 go]
      exact hx
  have cn : ∀ j : Nat, col j = none → col' j = none := fun j hj => by
    by_cases go : isGo r.v
    · rw [hc1 go]
      exact unc.n hj
    · rw [hc2 go]
      exact hj
  have cz : ∀ (j : Nat) (k : Bool), isGo r.v → col j = some (r.2.2.2, k) → col' j = none := fun j k go hj => by
    rw [hc1 go]
    exact unc.z hj
  clear hc1 hc2
  have c0 : ∀ j : Nat, ¬ col' j = none → ¬ col j = none := fun j hj z => hj (cn j z)
  -- second words
  have uk : ∀ j : Nat, ¬ col' j = none → u.a 22 j = s.a 22 j := fun j hj => by
    cases ec : col' j with
    | none => exact absurd ec hj
    | some x =>
      obtain ⟨y1, y2⟩ := cs j x ec
      refine u4 j (fun go z => ?_) (fun lo z => ?_) (fun z => ?_)
      · have := (hl1 go j).mpr z
        rw [y1] at this
        cases this
        exact y2 ⟨rfl, go⟩
      · have := (hl2 lo j).mpr z
        rw [y1] at this
        cases this
        exact y2 ⟨rfl, Or.inr (Or.inr lo)⟩
      · have := j3 r List.mem_cons_self j z
        rw [y1] at this
        cases this
  have us : ∀ j : Nat, ¬ PEN (r :: V) col j → u.a 22 j = s.a 22 j := fun j hj => u4 j (fun go z => hj (Or.inl (by rw [(hl1 go j).mpr z]; exact fun y => by (cases y)))) (fun lo z => hj (Or.inl (by rw [(hl2 lo j).mpr z]; exact fun y => by (cases y)))) (fun z => hj (Or.inr ⟨r, List.mem_cons_self, z⟩))
  -- what waits
  have mt : ∀ {P : RVW → Prop}, (∀ x : Int32, ¬ P (tv x)) → (∃ q ∈ tvs (rtgs r) ++ V, P q) → ∃ q ∈ V, P q := fun {P} hP ⟨q, hq, p⟩ => by
    rcases List.mem_append.mp hq with z | z
    · obtain ⟨x, e⟩ := tvs.mem _ z
      rw [e] at p
      exact absurd p (hP x)
    · exact ⟨q, z, p⟩
  have pe : ∀ k : Nat, PEN (tvs (rtgs r) ++ V) col' k → ¬ col' k = none ∨ ∃ q ∈ V, rsite q k := fun k p => by
    rcases p with p | p
    · exact Or.inl p
    · exact Or.inr (mt (fun x => tv.site) p)
  have pe' : ∀ k : Nat, PEN (tvs (rtgs r) ++ V) col' k → PEN (r :: V) col k := fun k p => by
    rcases pe k p with p | ⟨q, hq, p⟩
    · exact Or.inl (c0 k p)
    · exact Or.inr ⟨q, List.mem_cons_of_mem _ hq, p⟩
  have ph' : ∀ k : Nat, PCH (tvs (rtgs r) ++ V) k → PCH (r :: V) k := fun k p => (mt (P := fun q => (q.v = 218 ∨ q.v = 995) ∧ (k : Int) = (q.2.1 66).toInt) (fun x z => absurd z.1 (by rw [tv.v]; decide)) p).elim (fun q z => ⟨q, List.mem_cons_of_mem _ z.1, z.2⟩)
  have pz' : ∀ k : Nat, PCZ (tvs (rtgs r) ++ V) k → PCZ (r :: V) k := fun k p => (mt (P := fun q => q.v = 218 ∧ (k : Int) = (q.2.1 67).toInt) (fun x z => absurd z.1 (by rw [tv.v]; decide)) p).elim (fun q z => ⟨q, List.mem_cons_of_mem _ z.1, z.2⟩)
  have py' : ∀ k : Nat, PTY (tvs (rtgs r) ++ V) k → PTY (r :: V) k := fun k p => (mt (P := fun q => isTyv q ∧ (k : Int) = (q.2.1 66).toInt) (fun x z => absurd z.1 tv.ty) p).elim (fun q z => ⟨q, List.mem_cons_of_mem _ z.1, z.2⟩)
  have pa' : ∀ k : Nat, PCA (tvs (rtgs r) ++ V) k → PCA (r :: V) k := fun k p => (mt (P := fun q => isTyv q ∧ (k : Int) = (q.2.1 72).toInt) (fun x z => absurd z.1 tv.ty) p).elim (fun q z => ⟨q, List.mem_cons_of_mem _ z.1, z.2⟩)
  have py2 : ∀ k : Nat, PTY V k → PTY (tvs (rtgs r) ++ V) k := fun k p => p.ap
  have ui20 : ∀ k : Nat, u.i k = s.i k := fun k => by rw [ei]
  have kdu : KD2 (b.i 20).toInt b u := by
    obtain ⟨⟨k1, k2, k3, k4, k5⟩, m1, m2, m3, m4⟩ := b3
    refine ⟨⟨by rw [ui20]; exact k1, by rw [ui20]; exact k2, by rw [ui20]; exact k3, by rw [ui20]; exact k4, fun q => by
      have z := k5 q
      unfold SLO at z ⊢
      rw [ui20, ui20]
      exact z⟩, fun j hj => ?_, fun j hj => by rw [ea 25 (by decide) (by decide), ea 26 (by decide) (by decide), ea 27 (by decide) (by decide), ea 28 (by decide) (by decide)]; exact m2 j hj, fun j hj => by rw [ea 30 (by decide) (by decide), ea 31 (by decide) (by decide), ea 32 (by decide) (by decide)]; exact m3 j hj, fun j hj => by rw [ea 34 (by decide) (by decide), ea 35 (by decide) (by decide), ea 36 (by decide) (by decide), ea 37 (by decide) (by decide)]; exact m4 j hj⟩
    rw [ea 21 (by decide) (by decide), ea23 j (fun w => by have := (u3 j (rs8 j w)).2; omega), u4 j (fun go z => ?_) (fun lo z => ?_) (fun z => ?_)]
    · exact m1 j hj
    · have := (j2 j _ _ ((hl1 go j).mpr z)).1.1
      omega
    · have := (j2 j _ _ ((hl2 lo j).mpr z)).1.1
      omega
    · have := (u3 j z).2
      omega
  have js : JSI Ψ V col' YJ b u := by
    refine ⟨fun q hq go => ?_, fun j g k hc => ?_, fun q hq k p => cn k (j3 q (List.mem_cons_of_mem _ hq) k p), j4.2⟩
    · obtain ⟨z0, m1, m2, z1, z2, z3⟩ := j1 q (List.mem_cons_of_mem _ hq) go
      have ne : ¬ (q.2.2.2 = r.2.2.2 ∧ isGo r.v) := fun z => gi z.2 q hq go z.1
      have lm : ∀ (m : List Nat) (k : Bool) (v : Int32), lks s v m → (∀ j ∈ m, col j = some (q.2.2.2, k)) → lks u v m := fun m k v z hm => lks.mv m v z (fun j hj => uk j (by rw [ck j _ (hm j hj) ne]; exact fun y => by (cases y)))
      refine ⟨by rw [ui20]; exact z0, m1, m2, by rw [ea 48 (by decide) (by decide)]; exact lm m1 true _ z1 (fun j hj => (z3 j).1.mpr hj), by rw [ea 49 (by decide) (by decide)]; exact lm m2 false _ z2 (fun j hj => (z3 j).2.mpr hj), fun j => ⟨?_, ?_⟩⟩
      · rw [← (z3 j).1]
        exact ⟨fun z => (cs j _ z).1, fun z => ck j _ z ne⟩
      · rw [← (z3 j).2]
        exact ⟨fun z => (cs j _ z).1, fun z => ck j _ z ne⟩
    · obtain ⟨y1, y2⟩ := cs j _ hc
      obtain ⟨⟨z1, z2⟩, q, hq, gq, eq, z3⟩ := j2 j g k y1
      have hq' : q ∈ V := (List.mem_cons.mp hq).resolve_left (fun z => y2 (by rw [z] at gq eq; exact ⟨eq.symm, gq.1⟩))
      refine ⟨⟨z1, by rw [ui20]; exact z2⟩, q, hq', gq, eq, ?_⟩
      rcases z3 with z3 | ⟨i, i1, i2, i3, r', hr', i4, i5, i6, i7, i8⟩ | ⟨w, hw, w1, w2, w3, w4⟩
      · refine Or.inl ?_
        unfold jfl at z3 ⊢
        rw [ea 50 (by decide) (by decide), ea 51 (by decide) (by decide)]
        exact z3
      · have hr2 : r' ∈ V := (List.mem_cons.mp hr').resolve_left (fun z => nt (by rw [← z]; exact i4))
        exact Or.inr (Or.inl ⟨i, by rw [ui20]; exact i1, by rw [ea 60 (by decide) (by decide)]; exact i2, by rw [ea 61 (by decide) (by decide)]; exact i3, r', hr2, i4, i5, by rw [ea 62 (by decide) (by decide)]; exact i6, i7, fun q2 hq2 => i8 q2 (List.mem_cons_of_mem _ hq2)⟩)
      · exact Or.inr (Or.inr ⟨w, hw, ⟨w1.1, by rw [ui20]; exact w1.2⟩, fun ⟨q, hq, p⟩ => w2 ⟨q, List.mem_cons_of_mem _ hq, p⟩, by rw [ea 31 (by decide) (by decide)]; exact w3, w4⟩)
  have gk : GKV V u u' := ⟨fun q hq go => by
    have z := (js.1 q hq go).1
    rw [eA 50 (by decide) (by decide), eA 51 (by decide) (by decide), eA 48 (by decide) (by decide), eA 49 (by decide) (by decide), eA 47 (by decide) (by decide)]
    exact ⟨by rw [e19.2.2.1]; exact z, rfl, rfl, rfl, rfl, rfl⟩, by rw [e19.2.2.2]; exact Int.le_refl _, fun j _ => by
    rw [eA 60 (by decide) (by decide), eA 61 (by decide) (by decide), eA 62 (by decide) (by decide)]
    exact ⟨rfl, rfl, rfl⟩⟩
  have js' : JSI Ψ V col' YJ b u' := js.mw gk (by rw [du.1.1]; exact Int.le_refl _) (by rw [du.1.2.2.1]; exact Int.le_refl _) (fun j _ => by rw [du.2.2.1]) (fun w _ _ => by rw [du.2.2.2.2.2.2.2.2.2.1]) (fun _ _ q => q)
  have pinu : PIN (tvs (rtgs r) ++ V) col' u := ⟨fun k q => by rw [ui20]; exact pin.1 k (pe' k q), fun k q => by rw [ui20]; exact pin.2.1 k (pz' k q), fun k q => by rw [ui20]; exact pin.2.2.1 k (py' k q), fun k q => by rw [ui20]; exact pin.2.2.2 k (pa' k q)⟩
  have pinV : PIN V col' u := ⟨fun k q => pinu.1 k (q.elim Or.inl (fun ⟨w, hw, p⟩ => Or.inr ⟨w, List.mem_append_right _ hw, p⟩)), fun k ⟨w, hw, p⟩ => pinu.2.1 k ⟨w, List.mem_append_right _ hw, p⟩, fun k q => pinu.2.2.1 k (py2 k q), fun k ⟨w, hw, p⟩ => pinu.2.2.2 k ⟨w, List.mem_append_right _ hw, p⟩⟩
  have saxu : SAX (tvs (rtgs r) ++ V) Ψ B b S u := by
    have z := SAX.mo py' pa' sax
    unfold SAX GHM SLO at z ⊢
    rw [ui20 42, ui20 20, ui20 29]
    exact z
  have tgu : TGI B (tvs (rtgs r) ++ V) S := by
    unfold TGI at tgi ⊢
    rw [ptl.app, tvs_ptl]
    exact tgi
  have swt : SWT (b.i 24).toInt G V S' u' := by
    have w1 : SWT (b.i 24).toInt G V S u := by
      have y1 : SWS (b.i 24).toInt G V S s := fun q hq => hds.2.1 q (List.mem_cons_of_mem _ hq)
      have y2 : SWP V s := fun q hq => hds.2.2 q (List.mem_cons_of_mem _ hq)
      refine ⟨y1.mv (Int.le_refl _) (Int.le_refl _) (fun _ _ => rfl) (by rw [ui20]; exact Int.le_refl _) (fun j _ => by
        rw [ea 25 (by decide) (by decide), ea 26 (by decide) (by decide), ea 27 (by decide) (by decide), ea 28 (by decide) (by decide)]
        exact ⟨rfl, rfl, rfl, rfl⟩) (fun q hq z => ?_) (fun q hq z => by rw [ea 31 (by decide) (by decide)]) (fun q hq z => by rw [ea 30 (by decide) (by decide)]), y2.mv (by rw [ui20]; exact Int.le_refl _) (by rw [ui20]; exact Int.le_refl _)⟩
      have rs := rsite.h8 z ((y2 q hq).1 z).1
      have cq := j3 q (List.mem_cons_of_mem _ hq) _ rs
      exact u4 _ (fun go w => by rw [(hl1 go _).mpr w] at cq; cases cq) (fun lo w => by rw [(hl2 lo _).mpr w] at cq; cases cq) (fun w => j4.1 _ w q hq rs)
    exact w1.d dS du
  have dbe : DB G (r :: V) = DB G V + dbr (G r.2.2.1) r.v := rfl
  have dge := DB.ge G V
  have hdr' := hdr G (hds.2.1 r List.mem_cons_self).1
  refine ⟨(bD.d dS).wk (by omega) (leD _ hD1), ⟨fun k k1 k2 => by rw [dS.2.2.2.1]; exact b2 k k1 k2, n8' n8⟩, kdu.d du, KDC.rf _, Ψ, G, col', YJ, saxu.d dS du, ⟨pinu.d du, pinV.d du⟩, tgu.d dS, ⟨⟨?_, ⟨fun q hq k p => ?_, j4.2, fun w hw k p => ?_⟩, fun _ _ => rfl, fun _ _ _ => rfl⟩, (bD.d dS).wk (by omega) (leD _ hD1), fun q hq x hx => by
    rw [dS.2.2.2.1, dS.1.2.1, dS.1.1]
    rcases List.mem_append.mp hq with z | z
    · obtain ⟨y, e⟩ := tvs.mem _ z
      rw [e] at hx
      exact absurd hx (tv.hd x)
    · exact hds.1 q (List.mem_cons_of_mem _ z) x hx, swt⟩, ?_⟩
  · rw [tvs.rj]
    exact js'
  · rcases List.mem_append.mp hq with z | z
    · obtain ⟨x, e⟩ := tvs.mem _ z
      rw [e] at p
      exact absurd p tv.site
    · exact cn k (j3 q (List.mem_cons_of_mem _ z) k p)
  · obtain ⟨x, e⟩ := tvs.mem _ hw
    rw [e] at p
    exact absurd p tv.site
  intro FC SF nm X h0 ω c0' psi ng0 hc0 hh0 hω
  obtain ⟨⟨ng, hc, hh, dp⟩, mn⟩ := main FC SF nm X h0 ω c0' psi ng0 hc0 hh0 hω
  have e1 : JCX G ω h0 c0' (r :: V) = ((JCX G ω h0 c0' V).h, (JCX G ω h0 c0' V).l + jlv r.v, jty r.v ((JCX G ω h0 c0' V).l + jlv r.v) (JCX G ω h0 c0' V).t, jen G ω r (JCX G ω h0 c0' V).h (JCX G ω h0 c0' V).l ++ (JCX G ω h0 c0' V).c) := rfl
  rw [e1] at ng hc hh
  obtain ⟨nh, hc1⟩ := hN nm G ω (JCX G ω h0 c0' V) ng hc
  have frl : frs (JCX G ω h0 c0' V).c ≤ frs (jen G ω r (JCX G ω h0 c0' V).h (JCX G ω h0 c0' V).l ++ (JCX G ω h0 c0' V).c) := by
    rw [frs.app]
    omega
  have msl : msr (JCX G ω h0 c0' V).c ≤ msr (jen G ω r (JCX G ω h0 c0' V).h (JCX G ω h0 c0' V).l ++ (JCX G ω h0 c0' V).c) := msr.app _ _
  have fr9 := ng.2.2.2.1
  have hh' : ((2 * (JCX G ω h0 c0' V).h + msr (jen G ω r (JCX G ω h0 c0' V).h (JCX G ω h0 c0' V).l ++ (JCX G ω h0 c0' V).c) : Nat) : Int) ≤ (s.i 11).toInt := hh
  have fr9' : ((frs (jen G ω r (JCX G ω h0 c0' V).h (JCX G ω h0 c0' V).l ++ (JCX G ω h0 c0' V).c) : Nat) : Int) ≤ (s.i 19).toInt := fr9
  have l19 : (frs (JCX G ω h0 c0' V).c : Int) ≤ (u'.i 19).toInt := by
    rcases e19.1 with z | z
    · rw [z, ui20]
      omega
    · have c1 := (JCX.cnt G ω h0 c0' V).2.1
      have c2 := ng0.2.2.2.1
      omega
  refine ⟨⟨⟨nh, l19⟩, hc1, by rw [e19.2.1, ui20]; omega, fun q hq hv => ?_, ?_⟩, fun fc fg hA tyc jr => ?_⟩
  · obtain ⟨x, e⟩ := tvs.mem _ hq
    rw [e] at hv
    exact absurd hv (WGD.no (by rw [tv.v]; decide) rfl)
  · exact dp.2.mv V (fun q hq go => by rw [eA 47 (by decide) (by decide), ea 47 (by decide) (by decide)]) (by rw [e19.2.1, ui20]; exact Int.le_refl _)
  have fcS : FGD (r :: V) B S SF := (fc.d dS).pl (fun y hy => by rw [ptl.app, tvs_ptl] at hy; exact hy)
  have fgu : FGP (tvs (rtgs r) ++ V) col' b u U := fg.d du
  obtain ⟨g1, g4, g5, g6, g7⟩ := fgu
  rw [ui20] at g1 g4 g5 g6 g7
  have fgs : FGP (r :: V) col b s U := ⟨g1, fun j j1 j2 => ⟨by rw [(g4 j j1 j2).1, ea 21 (by decide) (by decide)], fun q => by rw [(g4 j j1 j2).2.1 (fun p => q (pe' j p)), us j q], fun q => by rw [(g4 j j1 j2).2.2 (fun p => q (ph' j p)), ea23 j (fun w => q ⟨r, List.mem_cons_self, Or.inl w.1, w.2⟩)]⟩, fun j j1 j2 => ⟨by rw [(g5 j j1 j2).1, ea 25 (by decide) (by decide)], by rw [(g5 j j1 j2).2.1, ea 26 (by decide) (by decide)], fun q => by rw [(g5 j j1 j2).2.2.1 (fun p => q (pz' j p)), ea 27 (by decide) (by decide)], by rw [(g5 j j1 j2).2.2.2, ea 28 (by decide) (by decide)]⟩, fun j j1 j2 q => by
    have z := g6 j j1 j2 (fun p => q (py' j p))
    rw [ea 30 (by decide) (by decide), ea 31 (by decide) (by decide), ea 32 (by decide) (by decide)] at z
    exact z, fun j j1 j2 => ⟨by rw [(g7 j j1 j2).1, ea 34 (by decide) (by decide)], by rw [(g7 j j1 j2).2.1, ea 35 (by decide) (by decide)], by rw [(g7 j j1 j2).2.2.1, ea 36 (by decide) (by decide)], fun q => by rw [(g7 j j1 j2).2.2.2 (fun p => q (pa' j p)), ea 37 (by decide) (by decide)]⟩⟩
  -- sites
  have np : ∀ j : Nat, rsite r j → ¬ PEN (tvs (rtgs r) ++ V) col' j := fun j z p => by
    rcases pe j p with p | ⟨q, hq, p⟩
    · exact p (cn j (j3 r List.mem_cons_self j z))
    · exact j4.1 j z q hq p
  have nq : ∀ (j : Nat) (k : Bool), isGo r.v → col j = some (r.2.2.2, k) → ¬ PEN (tvs (rtgs r) ++ V) col' j := fun j k go z p => by
    rcases pe j p with p | ⟨q, hq, p⟩
    · exact p (cz j k go z)
    · have := j3 q (List.mem_cons_of_mem _ hq) j p
      rw [z] at this
      cases this
  have arr : isGo r.v → ∀ (i : Nat) (k : Bool), col i = some (r.2.2.2, k) → FCY FC U (YJ i) → jfl s r.2.2.2 k = 1 := fun go i k hc fy => by
    obtain ⟨-, q, hq, gq, eq, z3⟩ := j2 i _ _ hc
    rcases z3 with z3 | ⟨-, -, -, -, r', hr', i4, i5, -⟩ | ⟨w, hw, w1, w2, w3, w4⟩
    · exact z3
    · exfalso
      have hr2 : r' ∈ V := (List.mem_cons.mp hr').resolve_left (fun z => nt (by rw [← z]; exact i4))
      have p1 := pl r' hr2
      rcases List.mem_cons.mp hq with z | z
      · rw [z] at i5
        omega
      · exact gi go q z gq.1 eq
    · exfalso
      have z := (fgs.2.2.2.1 w w1.1 w1.2 w2).2.1
      exact w4 FC nm psi (fy w hw (by rw [z]; exact w3))
  have jgl : ∀ Y : Als, isGo r.v → JGV FC SF U nm Y G ω r (JCX G ω h0 c0' V) s vb vc → JGL FC SF U nm Y G col YJ ω r (JCX G ω h0 c0' V) := fun Y go jv i fy => by
    refine ⟨fun hc => ?_, fun hc => ?_⟩
    · obtain ⟨p, q, z1, z2, z3⟩ := jv.1 (arr go i true hc fy)
      have ii := (j2 i _ _ hc).1
      exact ⟨p, q, z1, by rw [(g4 i ii.1 ii.2).2.1 (nq i true go hc), u1 go i ((hl1 go i).mp hc)]; exact z2, z3⟩
    · obtain ⟨p, q, z1, z2, z3⟩ := jv.2 (hlo i go hc) (arr go i false hc fy)
      have ii := (j2 i _ _ hc).1
      exact ⟨p, q, z1, by rw [(g4 i ii.1 ii.2).2.1 (nq i false go hc), u2 (hlo i go hc) i ((hl2 (hlo i go hc) i).mp hc)]; exact z2, z3⟩
  have jrh : ∀ Y : Als, JRH FC SF U nm Y G noc noy ω r (JCX G ω h0 c0' V) → (isGo r.v → JGV FC SF U nm Y G ω r (JCX G ω h0 c0' V) s vb vc) → JRH FC SF U nm Y G col YJ ω r (JCX G ω h0 c0' V) := fun Y z jv => ⟨z.1, z.2.1, z.2.2.1, z.2.2.2.1, z.2.2.2.2.1, z.2.2.2.2.2.1, z.2.2.2.2.2.2.1, z.2.2.2.2.2.2.2.1, fun go => jgl Y go (jv go)⟩
  have jr' : JRS FC SF U nm X G col YJ ω h0 c0' V := JRS.cw V (fun i q k hq gq e => ck i _ e (fun z => gi z.2 q hq gq z.1)) jr
  have hdp : ∀ x : Int32, rhd r x → ∃ p : Nat, (cTg SF x).toInt = (p : Int) ∧ p ≤ 1200 ∧ p ≤ pcC S := fun x hx => by
    obtain ⟨z1, z2, z3, z4⟩ := hds.1 r List.mem_cons_self x hx
    obtain ⟨-, r2, r3, -, -⟩ := crB.rms b1
    have b0 := crB.1.1.2.1
    have le1 : eB ≤ 1 := by rcases hB1 with z | ⟨z, -⟩ <;> omega
    have ckx := clampI (show 0 ≤ x.toInt by omega)
    have sf := fcS.2.2 x.toNatClampNeg (by omega) (by omega) (Or.inl z3)
    refine ⟨(S.a 17 x.toNatClampNeg).toInt.toNat, ?_, by have := fcS.1.2; omega, by unfold pcC; omega⟩
    unfold cTg gAt
    rw [if_pos (show ib x 1024 from ⟨by omega, by omega⟩)]
    show (SF.a 17 x.toNatClampNeg).toInt = _
    rw [sf]
    omega
  refine ⟨⟨fun k z => by rw [(g4 k (u3 k z).2 (pin.1 k (Or.inr ⟨r, List.mem_cons_self, z⟩))).2.1 (np k z)]; exact (u3 k z).1, hdp, fun go => (dp.1.1 go).2.2.2, fun z => ⟨by rw [(dp.1.2.1 z).1, (JCX.cnt G ω h0 c0' V).2.1], (dp.1.2.1 z).2⟩⟩, G, hc, fun Y sy z jv cu => ?_, fun z jv cu => ?_, fun z8 => ?_⟩
  · obtain ⟨-, mY⟩ := main FC SF nm Y h0 ω c0' psi ng0 hc0 hh0 hω
    exact (mY fcS fgs (mA FC SF nm X Y h0 ω c0' sy hA) (tyc.m0 sy) ⟨jrh Y z jv, JRS.m0 sy V jr'⟩ cu).2.1
  · have y := mn fcS fgs hA tyc ⟨jrh X z jv, jr'⟩ cu
    exact ⟨y.1, y.2.2⟩
  · have sp := (hds.2.2 r List.mem_cons_self).1 z8
    have rs := rsite.h8 z8 sp.1
    refine ⟨?_, (hds.2.1 r List.mem_cons_self).1 z8, fun M hM j hj => ?_⟩
    · refine (g4 _ (u3 _ rs).2 (pin.1 _ (Or.inr ⟨r, List.mem_cons_self, rs⟩))).2.2 (fun p => ?_)
      obtain ⟨q, hq, p1, p2⟩ := mt (P := fun q => (q.v = 218 ∨ q.v = 995) ∧ (((r.2.1 66).toNatClampNeg : Nat) : Int) = (q.2.1 66).toInt) (fun x z => absurd z.1 (by rw [tv.v]; decide)) p
      exact j4.1 _ rs q hq (p1.elim (fun w => Or.inl ⟨Or.inr (Or.inr w), p2⟩) (fun w => Or.inr (Or.inr (Or.inr ⟨Or.inr w, p2⟩))))
    · obtain ⟨M0, m1, m2, m3⟩ := (hds.2.1 r List.mem_cons_self).1 z8
      rw [chn.uq _ _ _ hM m1] at hj
      have lj := chn.lt M0 _ m1 j hj
      have z := g5 j (m3 j hj).1 lj
      rw [ea 25 (by decide) (by decide), ea 26 (by decide) (by decide), ea 27 (by decide) (by decide), ea 28 (by decide) (by decide)] at z
      exact ⟨z.1, z.2.1, z.2.2.1 (fun p => h8 z8 M0 m1 j hj (mt (P := fun q => q.v = 218 ∧ (j : Int) = (q.2.1 67).toInt) (fun x z => absurd z.1 (by rw [tv.v]; decide)) p)), z.2.2.2⟩
/-- a row that is no try and no switch closes -/
theorem JRW.clo (h : JRW A U B b (r :: V) S s) (n8' : N8 B b (r :: V) S s → N8 B b V S' u') (h44 : (S.i 44).toInt ≤ 900) (mA : JBM U A) (pl : ∀ q ∈ V, q.2.2.1 < r.2.2.1) (gi : isGo r.v → ∀ q ∈ V, isGo q.v → ¬ q.2.2.2 = r.2.2.2) (nt : ¬ isTyv r) (n218 : ¬ (r.v = 218 ∨ r.v = 995)) (hl : isGo r.v → lks s (s.a 48 r.2.2.2) l1 ∧ (isLo r.v → lks s (s.a 49 r.2.2.2) l2)) (e22 : S22 s u) (u1 : isGo r.v → ∀ j ∈ l1, u.a 22 j = vb) (u2 : isLo r.v → ∀ j ∈ l2, u.a 22 j = vc) (u3 : ∀ j : Nat, rsite r j → u.a 22 j = vs ∧ (b.i 20).toInt ≤ (j : Int)) (u4 : ∀ j : Nat, (isGo r.v → ¬ j ∈ l1) → (isLo r.v → ¬ j ∈ l2) → ¬ rsite r j → u.a 22 j = s.a 22 j) (dS : D38 S S') (du : D52 u u') (e19 : (u'.i 19 = u.i 19 ∨ (b.i 19).toInt + (sfr V : Int) ≤ (u'.i 19).toInt) ∧ u'.i 11 = u.i 11 ∧ u'.i 43 = u.i 43 ∧ u'.i 59 = u.i 59) (eA : ∀ k : Nat, 47 ≤ k → k ≤ 62 → u'.a k = u.a k) (hN : ∀ (nm : Nat → Nat → Prop) (G : GHT) (ω : Nat) (j : JCT), NMG nm (jen G ω r j.h j.l ++ j.c) S s → HC0 nm j.h (jen G ω r j.h j.l ++ j.c) → NMH nm j.c S' u' ∧ HC0 nm j.h j.c) {e dr : Int} (hdr : ∀ G : GHT, dr ≤ dbr (G r.2.2.1) r.v) (h1 : e = 1 ∨ (e = 0 ∧ ALN (S.i 43))) : JRG A U B b V u' (tvs (rtgs r)) (KCL U r S s vb vc vs) (-dr) e S' u' := (JRW.clo8 h n8' h44 mA pl gi nt hl ⟨e22.1, fun k k1 _ => e22.2 k k1, fun j _ => by rw [e22.2 23 (by decide)]⟩ u1 u2 u3 u4 dS du e19 eA hN (fun G _ => hdr G) h1 (fun z => absurd (Or.inl z) n218)).imp (Int.le_refl _) (Int.le_refl _) (fun FC SF nm X ω j Z _ _ _ _ _ _ k => by
  obtain ⟨k1, G, k2, k3, k4, -⟩ := k
  exact ⟨k1, G, k2, k3, k4⟩)
/-- names go, signs, rows: nothing of the code -/
theorem JRG.drp {V0 W : List RVW} {s0 : RS} {K : JKT} {a e : Int} {R : CS} (h : JRG A U B b V0 s0 W K a e S s) (kp : pe R = pe S) (i21 : R.i 21 = S.i 21) (i44 : R.i 44 = S.i 44) (a48 : R.a 48 = S.a 48) (a49 : R.a 49 = S.a 49) (q : qe u = qe s) (i38 : (u.i 38).toInt ≤ (s.i 38).toInt) (a40 : u.a 40 = s.a 40) : JRG A U B b V0 s0 W K a e R u := by
  intro crB
  obtain ⟨b1, ⟨b2, n8⟩, b3, b4, Ψ, G, col, YJ, sax, ⟨pin, pin0⟩, tgi, jsi, main⟩ := h crB
  have dR := D38.of kp i21 i44
  have du := D52.of q
  have p38 : R.i 38 = S.i 38 := (pe_eq kp).2.2.2.2.2.1
  have q52 : u.i 52 = s.i 52 := (qe_eq q).1.2.2.2.2.2
  refine ⟨b1.d dR, ⟨fun k k1 k2 => by rw [dR.2.2.2.1]; exact b2 k k1 k2, n8.lo a48 a49 q52 i38⟩, b3.d du, b4.d du, Ψ, G, col, YJ, sax.d dR du, ⟨pin.d du, pin0⟩, tgi.d dR, ⟨⟨jsi.1.1, jsi.1.2.1, fun j hj => by rw [du.2.2.1]; exact jsi.1.2.2.1 j hj, fun w w1 w2 => by rw [du.2.2.2.2.2.2.2.2.2.1]; exact jsi.1.2.2.2 w w1 w2⟩, jsi.2.1.d dR, fun q hq x hx => by
    rw [dR.2.2.2.1, dR.1.2.1, dR.1.1]
    exact jsi.2.2.1 q hq x hx, jsi.2.2.2.d dR du⟩, ?_⟩
  intro FC SF nm X h0 ω c0 psi ng0 hc0 hh0 hω
  obtain ⟨⟨ng, hc, hh, wn⟩, mn⟩ := main FC SF nm X h0 ω c0 psi ng0 hc0 hh0 hω
  refine ⟨⟨⟨⟨fun k hk => ?_, by rw [p38]; exact ng.1.2.1, by rw [q52]; exact ng.1.2.2.1, ng.1.2.2.2.d dR du⟩, ng.2⟩, hc, hh, wn.mv (by rw [dR.1.2.2.2.1]; exact Int.le_refl _) (fun _ hr _ => hr)⟩, fun fc fg hA tyc jr => mn (fc.d dR) (fg.d du) hA tyc jr⟩
  rw [a48, a49, a40]
  exact ng.1.1 k (by omega)
end
end
section
/-! both readers: a try's row closes -/
/-- what is known when a try's block ends -/
def KTY (U : RS) (r : RVW) (g : Nat × Nat × List (Int32 × Nat)) (S : CS) (s : RS) : JKT := fun FC SF nm X ω j Z => ((r.1 2).toInt = (frs j.c : Int) ∧ NT5 (r.1 9) ∧ TGT3 r) ∧ HC0 nm j.h (jen (fun _ => g) ω r j.h j.l ++ j.c) ∧ (TRH FC SF U nm X (fun _ => g) ω r j → JCU FC SF U nm X (fun _ => g) ω r j S s → Z)
theorem jen.cg {G : GHT} {ω h l : Nat} {r : RVW} {g : Nat × Nat × List (Int32 × Nat)} (e : G r.2.2.1 = g) : jen G ω r h l = jen (fun _ => g) ω r h l := by
  unfold jen
  rw [e]
theorem TRH.cg {FC : Nat → Prop} {SF : CS} {U : RS} {nm : Nat → Nat → Prop} {X : Als} {G : GHT} {ω : Nat} {r : RVW} {j : JCT} {g : Nat × Nat × List (Int32 × Nat)} (e : G r.2.2.1 = g) (h : TRH FC SF U nm X (fun _ => g) ω r j) : TRH FC SF U nm X G ω r j := by
  unfold TRH HRB at h ⊢
  rw [jen.cg e, e]
  exact h
theorem JCU.cg {FC : Nat → Prop} {SF : CS} {U : RS} {nm : Nat → Nat → Prop} {X : Als} {G : GHT} {ω : Nat} {r : RVW} {j : JCT} {g : Nat × Nat × List (Int32 × Nat)} {S : CS} {s : RS} (e : G r.2.2.1 = g) (h : JCU FC SF U nm X (fun _ => g) ω r j S s) : JCU FC SF U nm X G ω r j S s := by
  unfold JCU at h ⊢
  rw [jen.cg e]
  exact h
theorem tyv.site {r : RVW} (h : isTyv r) {k : Nat} : ¬ rsite r k := fun z => by
  have h' : isTy r.v := h
  unfold rsite at z
  unfold isTy at h'
  rcases h' with q | q | q | q <;> rw [q] at z <;> rcases z with ⟨z, -⟩ | ⟨z, -⟩ | ⟨z, -⟩ | ⟨z, -⟩ <;> exact absurd z (by decide)
theorem tyv.hd {r : RVW} (h : isTyv r) {x : Int32} : ¬ rhd r x := fun z => by
  have h' : isTy r.v := h
  unfold rhd at z
  unfold isTy at h'
  rcases h' with q | q | q | q <;> rw [q] at z <;> rcases z with ⟨z, -⟩ | ⟨z, -⟩ | ⟨z, -⟩ <;> exact absurd z (by decide)
theorem tyv.go {r : RVW} (h : isTyv r) : ¬ isGo r.v := fun z => by
  have h' : isTy r.v := h
  unfold isTy at h'
  unfold isGo at z
  rcases h' with q | q | q | q <;> rw [q] at z <;> exact absurd z (by decide)
theorem tyv.jrh {FC : Nat → Prop} {SF : CS} {U : RS} {nm : Nat → Nat → Prop} {X : Als} {G : GHT} {col : Nat → Option (Nat × Bool)} {YJ : Nat → List Nat} {ω : Nat} {r : RVW} {j : JCT} (h : isTyv r) (z : TRH FC SF U nm X G ω r j) : JRH FC SF U nm X G col YJ ω r j := by
  have ng := tyv.go h
  have h' : isTy r.v := h
  unfold isTy at h'
  have nv : ∀ v : Int32, ¬ (v = 213 ∨ v = 215 ∨ v = 305 ∨ v = 216) → ¬ r.v = v := fun v hv q => hv (by rw [← q]; exact h')
  exact ⟨fun q => absurd q (nv _ (by decide)), fun q => absurd q (nv _ (by decide)), fun q => absurd q (nv _ (by decide)), fun q => absurd q (nv _ (by decide)), fun q => absurd q (nv _ (by decide)), fun q => absurd q (nv _ (by decide)), fun q => absurd q (nv _ (by decide)), fun _ => z, fun q => absurd q ng⟩
theorem tvs.rjw : ∀ (l : List Int32) (W : List RVW), rjw (tvs l ++ W) = rjw W
  | [], _ => rfl
  | x :: l, W => (tv.rj x (tvs l ++ W)).trans (tvs.rjw l W)
theorem JSI.rt {Ψ : GPS} {V : List RVW} {r r' : RVW} {col : Nat → Option (Nat × Bool)} {YJ : Nat → List Nat} {b s : RS} (h : JSI Ψ (r :: V) col YJ b s) (ty : isTyv r) (ty' : isTyv r') (e2 : r'.2.2 = r.2.2) (e66 : r'.2.1 66 = r.2.1 66) (wl : isWl r'.v → isWl r.v) : JSI Ψ (r' :: V) col YJ b s := by
  obtain ⟨h1, h2, h3, h4⟩ := h
  have pt : ∀ y : Nat, PTY (r' :: V) y → PTY (r :: V) y := fun y p => by
    obtain ⟨q, hq, q1, q2⟩ := p
    rcases List.mem_cons.mp hq with z | z
    · rw [z, e66] at q2
      exact ⟨r, List.mem_cons_self, ty, q2⟩
    · exact ⟨q, List.mem_cons_of_mem _ z, q1, q2⟩
  refine ⟨fun q hq go => ?_, fun j g k hc => ?_, fun q hq k p => ?_, fun k p => absurd p (tyv.site ty'), h4.2⟩
  · rcases List.mem_cons.mp hq with z | z
    · rw [z] at go
      exact absurd go (tyv.go ty')
    · exact h1 q (List.mem_cons_of_mem _ z) go
  · obtain ⟨z1, q, hq, gq, eq, z3⟩ := h2 j g k hc
    have hq' : q ∈ V := (List.mem_cons.mp hq).resolve_left (fun z => by rw [z] at gq; exact tyv.go ty gq.1)
    refine ⟨z1, q, List.mem_cons_of_mem _ hq', gq, eq, ?_⟩
    rcases z3 with z3 | ⟨i, i1, i2, i3, r2, hr2, i4, i5, i6, i7, i8⟩ | ⟨w, hw, w1, w2, w3, w4⟩
    · exact Or.inl z3
    · have i8' : ∀ r3 ∈ r' :: V, isWl r3.v → q.2.2.1 < r3.2.2.1 → r3.2.2.1 < r2.2.2.1 → (r3.2.1 66).toNatClampNeg ∈ YJ j := fun r3 hr3 w1 w2 w3 => by
        rcases List.mem_cons.mp hr3 with z | z
        · rw [z] at w1 w2 w3 ⊢
          rw [e2] at w2 w3
          rw [e66]
          exact i8 r List.mem_cons_self (wl w1) w2 w3
        · exact i8 r3 (List.mem_cons_of_mem _ z) w1 w2 w3
      rcases List.mem_cons.mp hr2 with z | z
      · rw [z] at i4 i5 i6 i7 i8'
        exact Or.inr (Or.inl ⟨i, i1, i2, i3, r', List.mem_cons_self, ty', by rw [e2]; exact i5, by rw [e66]; exact i6, by rw [e66]; exact i7, fun r3 hr3 w1 w2 w3 => i8' r3 hr3 w1 w2 (by rw [e2] at w3; exact w3)⟩)
      · exact Or.inr (Or.inl ⟨i, i1, i2, i3, r2, List.mem_cons_of_mem _ z, i4, i5, i6, i7, i8'⟩)
    · exact Or.inr (Or.inr ⟨w, hw, w1, fun p => w2 (pt w p), w3, w4⟩)
  · rcases List.mem_cons.mp hq with z | z
    · rw [z] at p
      exact absurd p (tyv.site ty')
    · exact h3 q (List.mem_cons_of_mem _ z) k p
section
variable {A : JBA} {U : RS} {B : CS} {b : RS} {V : List RVW} {r r' : RVW} {S S' : CS} {s u' : RS} {tl : List Int32}
set_option maxHeartbeats 2000000 in
/-- a try's block ends: its row waits, relabelled -/
theorem JRW.cly (crB : CRQB B) (h : JRW A U B b (r :: V) S s) (n8' : N8 B b (r :: V) S s → N8 B b V S' u') (r0 : ¬ r.2.2.1 = 0) (ty : r.v = 213 ∨ r.v = 215 ∨ r.v = 216) (ty' : (¬ r.v = 216 ∧ r'.v = 305) ∨ (r.v = 216 ∧ r'.v = 216)) (e2 : r'.2.2 = r.2.2 ∧ r'.2.1 66 = r.2.1 66 ∧ r'.2.1 72 = r.2.1 72 ∧ r'.1 2 = r.1 2 ∧ r'.1 9 = r.1 9 ∧ r'.1 11 = r.1 11) (etl : rtgs r = tl ++ rtgs r') (dS : D38 S S') (du : D52 s u') (e19 : (u'.i 19 = s.i 19 ∨ (b.i 19).toInt + (sfr V : Int) ≤ (u'.i 19).toInt) ∧ u'.i 11 = s.i 11 ∧ u'.i 43 = s.i 43 ∧ u'.i 59 = s.i 59) (eA : ∀ k : Nat, 47 ≤ k → k ≤ 62 → u'.a k = s.a k) (hN : ∀ (nm : Nat → Nat → Prop) (G : GHT) (ω : Nat) (j : JCT), (r.v = 215 → NB4 (G r.2.2.1).2.1 r) → NMG nm (jen G ω r j.h j.l ++ j.c) S s → HC0 nm j.h (jen G ω r j.h j.l ++ j.c) → NMH nm j.c S' u' ∧ HC0 nm j.h j.c) {e dr : Int} (hdr : dr ≤ 1 ∧ (r.v = 216 → dr ≤ 0)) (h1 : e = 1 ∨ (e = 0 ∧ ALN (S.i 43))) : ∃ g : Nat × Nat × List (Int32 × Nat), ((r.v = 215 → (g.2.2.length = 0 ∨ 3 * (g.2.2.length : Int) + 3 ≤ (s.i 11).toInt) ∧ ∀ z ∈ g.2.2, ((z.2 : Nat) : Int) ≤ (S.i 20).toInt) ∧ (r.v = 216 → (s.a 31 (r.2.1 66).toNatClampNeg).toInt = (g.1 : Int)) ∧ (¬ r.v = 216 → (s.a 31 (r.2.1 66).toNatClampNeg).toInt < 0) ∧ (r.v = 215 ∨ r.v = 216 → ∀ z ∈ g.2.2, s.a 30 (r.2.1 66).toNatClampNeg = z.1)) ∧ JRG A U B b V u' (tvs tl ++ [r']) (KTY U r g S s) (-dr) e S' u' := by
  obtain ⟨⟨eB, hB1, b1⟩, ⟨b2, n8⟩, b3, Ψ, G, col, YJ, sax, pin, tgi, ⟨jsi, ⟨eD, hD1, bD⟩, hds⟩, main⟩ := h crB
  have leD : ∀ x : Int, (x = 0 ∨ (x = 1 ∧ ¬ ALN (S.i 43))) → x ≤ e := fun x hx => by
    rcases hx with z | ⟨z, z'⟩ <;> rcases h1 with q | ⟨q, q'⟩
    · omega
    · omega
    · omega
    · exact absurd q' z'
  obtain ⟨e22, e66, e72, eo2, eo9, eo11⟩ := e2
  have tyr : isTyv r := by
    show isTy r.v
    rcases ty with z | z | z
    · exact Or.inl z
    · exact Or.inr (Or.inl z)
    · exact Or.inr (Or.inr (Or.inr z))
  have tyr' : isTyv r' := by
    show isTy r'.v
    rcases ty' with ⟨-, z⟩ | ⟨-, z⟩
    · exact Or.inr (Or.inr (Or.inl z))
    · exact Or.inr (Or.inr (Or.inr z))
  have df : dfr r.v = 1 := by
    unfold dfr
    exact if_pos (Or.inr ty)
  have wl : isWl r'.v → isWl r.v := fun z => by
    rcases ty' with ⟨q, -⟩ | ⟨-, q⟩
    · rcases ty with w | w | w
      · exact Or.inl w
      · exact Or.inr (Or.inl w)
      · exact absurd w q
    · rw [q] at z
      unfold isWl at z
      exact absurd z (by decide)
  have js : JSI Ψ (r' :: V) col YJ b s := jsi.rt tyr tyr' e22 e66 wl
  have n0' : ¬ r'.2.2.1 = 0 := by rw [e22]; exact r0
  have erj : rjw (tvs tl ++ [r']) = [r'] := (tvs.rjw tl [r']).trans (rjw.y ⟨show isTy r'.v from tyr', n0'⟩)
  -- what waits
  have mm : ∀ q : RVW, q ∈ tvs tl ++ [r'] → (∃ x : Int32, q = tv x) ∨ q = r' := fun q hq => by
    rcases List.mem_append.mp hq with z | z
    · exact Or.inl (tvs.mem _ z)
    · exact Or.inr (List.mem_singleton.mp z)
  have mt : ∀ {P : RVW → Prop}, (∀ x : Int32, ¬ P (tv x)) → (P r' → P r) → (∃ q ∈ tvs tl ++ [r'] ++ V, P q) → ∃ q ∈ r :: V, P q := fun {P} hP hr ⟨q, hq, p⟩ => by
    rcases List.mem_append.mp hq with z | z
    · rcases mm q z with ⟨x, e⟩ | e
      · rw [e] at p
        exact absurd p (hP x)
      · rw [e] at p
        exact ⟨r, List.mem_cons_self, hr p⟩
    · exact ⟨q, List.mem_cons_of_mem _ z, p⟩
  have pe' : ∀ k : Nat, PEN (tvs tl ++ [r'] ++ V) col k → PEN (r :: V) col k := fun k p => by
    rcases p with p | p
    · exact Or.inl p
    · exact Or.inr (mt (P := fun q => rsite q k) (fun x => tv.site) (fun z => absurd z (tyv.site tyr')) p)
  have nv' : ¬ (r'.v = 218 ∨ r'.v = 995) := by
    rcases ty' with ⟨-, z⟩ | ⟨-, z⟩ <;> rw [z] <;> decide
  have ph' : ∀ k : Nat, PCH (tvs tl ++ [r'] ++ V) k → PCH (r :: V) k := fun k p => mt (P := fun q => (q.v = 218 ∨ q.v = 995) ∧ (k : Int) = (q.2.1 66).toInt) (fun x z => absurd z.1 (by rw [tv.v]; decide)) (fun z => absurd z.1 nv') p
  have pz' : ∀ k : Nat, PCZ (tvs tl ++ [r'] ++ V) k → PCZ (r :: V) k := fun k p => mt (P := fun q => q.v = 218 ∧ (k : Int) = (q.2.1 67).toInt) (fun x z => absurd z.1 (by rw [tv.v]; decide)) (fun z => absurd (Or.inl z.1) nv') p
  have py' : ∀ k : Nat, PTY (tvs tl ++ [r'] ++ V) k → PTY (r :: V) k := fun k p => mt (P := fun q => isTyv q ∧ (k : Int) = (q.2.1 66).toInt) (fun x z => absurd z.1 tv.ty) (fun z => ⟨tyr, by rw [← e66]; exact z.2⟩) p
  have pa' : ∀ k : Nat, PCA (tvs tl ++ [r'] ++ V) k → PCA (r :: V) k := fun k p => mt (P := fun q => isTyv q ∧ (k : Int) = (q.2.1 72).toInt) (fun x z => absurd z.1 tv.ty) (fun z => ⟨tyr, by rw [← e72]; exact z.2⟩) p
  have gk : GKV (r' :: V) s u' := ⟨fun q hq go => by
    have z := (js.1 q hq go).1
    rw [eA 50 (by decide) (by decide), eA 51 (by decide) (by decide), eA 48 (by decide) (by decide), eA 49 (by decide) (by decide), eA 47 (by decide) (by decide)]
    exact ⟨by rw [e19.2.2.1]; exact z, rfl, rfl, rfl, rfl, rfl⟩, by rw [e19.2.2.2]; exact Int.le_refl _, fun j _ => by
    rw [eA 60 (by decide) (by decide), eA 61 (by decide) (by decide), eA 62 (by decide) (by decide)]
    exact ⟨rfl, rfl, rfl⟩⟩
  have js' : JSI Ψ (r' :: V) col YJ b u' := js.mw gk (by rw [du.1.1]; exact Int.le_refl _) (by rw [du.1.2.2.1]; exact Int.le_refl _) (fun j _ => by rw [du.2.2.1]) (fun w _ _ => by rw [du.2.2.2.2.2.2.2.2.2.1]) (fun _ _ q => q)
  have pinu : PIN (tvs tl ++ [r'] ++ V) col s := ⟨fun k q => pin.1 k (pe' k q), fun k q => pin.2.1 k (pz' k q), fun k q => pin.2.2.1 k (py' k q), fun k q => pin.2.2.2 k (pa' k q)⟩
  have pinV : PIN V col s := ⟨fun k q => pin.1 k (q.elim Or.inl (fun ⟨w, hw, p⟩ => Or.inr ⟨w, List.mem_cons_of_mem _ hw, p⟩)), fun k ⟨w, hw, p⟩ => pin.2.1 k ⟨w, List.mem_cons_of_mem _ hw, p⟩, fun k ⟨w, hw, p⟩ => pin.2.2.1 k ⟨w, List.mem_cons_of_mem _ hw, p⟩, fun k ⟨w, hw, p⟩ => pin.2.2.2 k ⟨w, List.mem_cons_of_mem _ hw, p⟩⟩
  have etg : ptl (tvs tl ++ [r'] ++ V) = ptl (r :: V) := by
    rw [ptl.app, ptl.app, tvs_ptl]
    show (tl ++ (rtgs r' ++ [])) ++ ptl V = rtgs r ++ ptl V
    rw [List.append_nil, ← etl]
  have tgu : TGI B (tvs tl ++ [r'] ++ V) S := by
    unfold TGI at tgi ⊢
    rw [etg]
    exact tgi
  have swt : SWT (b.i 24).toInt G V S' u' := SWT.d ⟨fun q hq => hds.2.1 q (List.mem_cons_of_mem _ hq), fun q hq => hds.2.2 q (List.mem_cons_of_mem _ hq)⟩ dS du
  have dbe : DB G (r :: V) = DB G V + dbr (G r.2.2.1) r.v := rfl
  have dge := DB.ge G V
  have hdr' : dr ≤ dbr (G r.2.2.1) r.v := by
    unfold dbr
    rcases ty with z | z | z
    · rw [if_pos (Or.inr (Or.inr (Or.inr (Or.inl z))))]
      exact hdr.1
    · rw [if_pos (Or.inr (Or.inr (Or.inr (Or.inr (Or.inl z)))))]
      exact hdr.1
    · rw [if_neg (by rw [z]; decide), if_neg (by rw [z]; decide)]
      exact hdr.2 z
  -- the ghost
  obtain ⟨g, g1, g2, g3, g4, g5⟩ : ∃ g : Nat × Nat × List (Int32 × Nat), (r.v = 215 → g.2.2.length = 0 ∨ 3 * (g.2.2.length : Int) + 3 ≤ (s.i 11).toInt) ∧ (r.v = 215 → ∀ z ∈ g.2.2, ((z.2 : Nat) : Int) ≤ (S.i 20).toInt) ∧ ((r.v = 215 → 3 * ((G r.2.2.1).2.2.length : Int) + 3 ≤ (s.i 11).toInt) → G r.2.2.1 = g) ∧ g.1 = (G r.2.2.1).1 ∧ (r.v = 215 ∨ r.v = 216 → ∀ z ∈ g.2.2, s.a 30 (r.2.1 66).toNatClampNeg = z.1) := by
    by_cases st : r.v = 215 → 3 * ((G r.2.2.1).2.2.length : Int) + 3 ≤ (s.i 11).toInt
    · exact ⟨G r.2.2.1, fun z => Or.inr (st z), (hds.2.1 r List.mem_cons_self).2.2.1, fun _ => rfl, rfl, (hds.2.1 r List.mem_cons_self).2.2.2.2.2⟩
    · exact ⟨((G r.2.2.1).1, 0, []), fun _ => Or.inl rfl, fun _ z hz => absurd hz List.not_mem_nil, fun z => absurd z st, rfl, fun _ z hz => absurd hz List.not_mem_nil⟩
  refine ⟨g, ⟨fun z => ⟨g1 z, g2 z⟩, fun z => by rw [g4]; exact (hds.2.1 r List.mem_cons_self).2.1 z, fun z => (hds.2.1 r List.mem_cons_self).2.2.2.2.1 tyr z, g5⟩, fun _ => ⟨(bD.d dS).wk (by omega) (leD _ hD1), ⟨fun k k1 k2 => by rw [dS.2.2.2.1]; exact b2 k k1 k2, n8' n8⟩, b3.d du, KDC.rf _, Ψ, G, col, YJ, (SAX.mo py' pa' sax).d dS du, ⟨pinu.d du, pinV.d du⟩, tgu.d dS, ⟨⟨by rw [erj]; exact js', ⟨fun q hq k p => ?_, jsi.2.2.2.2, fun w hw k p => ?_⟩, fun _ _ => rfl, fun _ _ _ => rfl⟩, (bD.d dS).wk (by omega) (leD _ hD1), fun q hq x hx => ?_, swt⟩, ?_⟩⟩
  · rcases List.mem_append.mp hq with z | z
    · rcases mm q z with ⟨x, e⟩ | e
      · rw [e] at p
        exact absurd p tv.site
      · rw [e] at p
        exact absurd p (tyv.site tyr')
    · exact jsi.2.2.1 q (List.mem_cons_of_mem _ z) k p
  · rcases mm w hw with ⟨x, e⟩ | e
    · rw [e] at p
      exact absurd p tv.site
    · rw [e] at p
      exact absurd p (tyv.site tyr')
  · rw [dS.2.2.2.1, dS.1.2.1, dS.1.1]
    rcases List.mem_append.mp hq with z | z
    · rcases mm q z with ⟨y, e⟩ | e
      · rw [e] at hx
        exact absurd hx (tv.hd x)
      · rw [e] at hx
        exact absurd hx (tyv.hd tyr')
    · exact hds.1 q (List.mem_cons_of_mem _ z) x hx
  intro FC SF nm X h0 ω c0' psi ng0 hc0 hh0 hω
  obtain ⟨⟨ng, hc, hh, dp⟩, mn⟩ := main FC SF nm X h0 ω c0' psi ng0 hc0 hh0 hω
  have eg : G r.2.2.1 = g := g3 (fun z => (dp.1.2.2.2 z).1)
  have e1 : JCX G ω h0 c0' (r :: V) = ((JCX G ω h0 c0' V).h, (JCX G ω h0 c0' V).l + jlv r.v, jty r.v ((JCX G ω h0 c0' V).l + jlv r.v) (JCX G ω h0 c0' V).t, jen G ω r (JCX G ω h0 c0' V).h (JCX G ω h0 c0' V).l ++ (JCX G ω h0 c0' V).c) := rfl
  rw [e1] at ng hc hh
  obtain ⟨nh, hc1⟩ := hN nm G ω (JCX G ω h0 c0' V) (fun z => (dp.1.2.2.2 z).2) ng hc
  have frl : frs (JCX G ω h0 c0' V).c ≤ frs (jen G ω r (JCX G ω h0 c0' V).h (JCX G ω h0 c0' V).l ++ (JCX G ω h0 c0' V).c) := by
    rw [frs.app]
    omega
  have msl : msr (JCX G ω h0 c0' V).c ≤ msr (jen G ω r (JCX G ω h0 c0' V).h (JCX G ω h0 c0' V).l ++ (JCX G ω h0 c0' V).c) := msr.app _ _
  have hh' : ((2 * (JCX G ω h0 c0' V).h + msr (jen G ω r (JCX G ω h0 c0' V).h (JCX G ω h0 c0' V).l ++ (JCX G ω h0 c0' V).c) : Nat) : Int) ≤ (s.i 11).toInt := hh
  have fr9' : ((frs (jen G ω r (JCX G ω h0 c0' V).h (JCX G ω h0 c0' V).l ++ (JCX G ω h0 c0' V).c) : Nat) : Int) ≤ (s.i 19).toInt := ng.2.2.2.1
  have l19 : (frs (JCX G ω h0 c0' V).c : Int) ≤ (u'.i 19).toInt := by
    rcases e19.1 with z | z
    · rw [z]
      omega
    · have c1 := (JCX.cnt G ω h0 c0' V).2.1
      have c2 := ng0.2.2.2.1
      omega
  have fr2 : (r.1 2).toInt = (frs (JCX G ω h0 c0' V).c : Int) := by rw [(dp.1.2.1 df).1, (JCX.cnt G ω h0 c0' V).2.1]
  have t3 : TGT3 r := dp.1.2.2.1 tyr
  refine ⟨⟨⟨nh, l19⟩, hc1, by rw [e19.2.1]; omega, fun q hq hv => ?_, ?_⟩, fun fc fg hA tyc jr => ⟨⟨fr2, (dp.1.2.1 df).2, t3⟩, by rw [← jen.cg eg]; exact hc, fun z cu => ?_⟩⟩
  · rcases mm q hq with ⟨x, e⟩ | e
    · rw [e] at hv
      exact absurd hv (WGD.no (by rw [tv.v]; decide) rfl)
    · rw [e]
      refine ⟨fun z => ?_, fun _ => ⟨by rw [eo2]; exact fr2, by rw [eo9]; exact (dp.1.2.1 df).2, by rw [eo9, eo11]; exact t3.1, by rw [eo11]; exact t3.2.1, fun z => ?_, fun z => ?_, fun z => ?_⟩⟩
      all_goals
        exfalso
        rcases ty' with ⟨-, w⟩ | ⟨-, w⟩ <;> rw [w] at z <;> exact absurd z (by decide)
  · exact dp.2.mv V (fun q hq go => by rw [eA 47 (by decide) (by decide)]) (by rw [e19.2.1]; exact Int.le_refl _)
  · have fcS : FGD (r :: V) B S SF := (fc.d dS).pl (fun y hy => by rw [etg] at hy; exact hy)
    have fgs : FGP (r :: V) col b s U := (fg.d du).st pe' pz' py' pa' ph'
    have y := mn fcS fgs hA tyc ⟨tyv.jrh tyr (TRH.cg eg z), jr⟩ (JCU.cg eg cu)
    exact ⟨y.1, y.2.2⟩
end
end
section
/-! both readers: a block begins -/
/-- the top of the rows, what it waits for -/
def MLI (c : CEL) (S : CS) (s : RS) : Prop := ¬ isOne (S.o c.2.1 0) ∧ ¬ S.o c.2.1 0 = 305 ∧ tpI s = (ceT c : Int) + (wid (S.o c.2.1 0) : Int) - 1 ∧ s.a 64 (ceT c + wid (S.o c.2.1 0) - 1) = 1 ∧ ((s.a 65 (ceT c + wid (S.o c.2.1 0) - 1) = 0 ∧ S.i 36 = 1) ∨ (s.a 65 (ceT c + wid (S.o c.2.1 0) - 1) = 1 ∧ s.i 75 = S.i 36)) ∧ (S.o c.2.1 0 = 218 → s.a 65 (ceT c) = 3 ∧ S.o c.2.1 5 = 1)
def NMC (c : CEL) (S : CS) : Prop := isOne (S.o c.2.1 0) → ¬ S.o c.2.1 0 = 207 → ¬ S.o c.2.1 0 = 304 → S.i 50 = S.o c.2.1 3
def MBO (c : CEL) (S : CS) (s : RS) : Prop := isOne (S.o c.2.1 0) ∧ S.o c.2.1 5 = 0 ∧ tpI s = ((ceT c + 1 : Nat) : Int) ∧ s.a 64 (ceT c + 1) = 2 ∧ s.a 65 (ceT c + 1) = 0 ∧ S.i 36 = 1 ∧ (¬ s.i 10 = 410 ∧ ¬ s.i 10 = 411) ∧ NMC c S
def MEN (c : CEL) (S : CS) (s : RS) : Prop := isOne (S.o c.2.1 0) ∧ S.o c.2.1 5 = 1 ∧ tpI s = (ceT c : Int) ∧ s.i 75 = S.i 36 ∧ NMC c S
def MSW (c : CEL) (S : CS) (s : RS) : Prop := S.o c.2.1 0 = 218 ∧ s.a 65 (ceT c) = 2 ∧ tpI s = (ceT c : Int) ∧ s.a 70 (ceT c) = S.i 36 ∧ S.o c.2.1 5 = 0
def MGU (c : CEL) (S : CS) (s : RS) : Prop := S.o c.2.1 0 = 305 ∧ tpI s = (ceT c : Int) ∧ S.i 50 = S.o c.2.1 3 ∧ (S.i 43 = 215 ∨ S.i 43 = 216) ∧ 8 * ((s.i 38).toInt - 2) + 1 ≤ (s.i 11).toInt
/-- behind a statement -/
def MOR (c : CEL) (S : CS) (s : RS) : Prop := (MLI c S s ∨ MEN c S s) ∧ (S.i 36 = 0 ∨ S.i 36 = 1)
def MOD (c : CEL) (S : CS) (s : RS) : Prop := (MLI c S s ∨ MBO c S s ∨ MEN c S s ∨ MSW c S s ∨ MGU c S s) ∧ (S.i 36 = 0 ∨ S.i 36 = 1)
/-- what a label that stands on top must have, by the token behind it -/
def lcd (s : RS) : Int := if s.i 10 = 415 ∨ s.i 10 = 416 ∨ s.i 10 = 417 then -3 else if s.i 10 = 2 then -2 else -1
def cod (c : CEL) (S : CS) (s : RS) : Int := if S.o c.2.1 0 = 303 ∧ S.o c.2.1 5 = 0 then lcd s else -9
/-- a row more stands on top -/
def NEW (d : Int32) (B : CS) (b : RS) (t0 : Nat) (c : CEL) (L : List CEL) (R : CS) (u : RS) (J : List RVW → CS → RS → Prop) : Prop := ∃ c1 : CEL, COR d B b t0 (c1 :: c :: L) (cod c1 R u) R u ∧ TOP R u c1 ∧ MOD c1 R u ∧ J (vws R u (c1 :: c :: L)) R u
/-- frames of a row of the sort 301 -/
theorem RFR.m301 {S : CS} {s : RS} {a t g w : Nat} (e : S.o a 0 = 301) (h : F301 s t (S.o a 3)) : RFR S s a t g w := by
  have n : ∀ v : Int32, ¬ v = 301 → ¬ S.o a 0 = v := fun v hv q => hv (q.symm.trans e)
  refine ⟨fun q => absurd q (n 300 (by decide)), fun _ => h, fun q => absurd q (n 302 (by decide)), fun q => absurd q (n 303 (by decide)), fun q => absurd q (n 203 (by decide)), fun q => absurd q (n 204 (by decide)), fun q => absurd q (n 205 (by decide)), fun q => absurd q (n 206 (by decide)), fun q => absurd q (n 207 (by decide)), fun q => absurd q (n 304 (by decide)), fun q => absurd q (n 212 (by decide)), fun q => absurd q (n 218 (by decide)), fun q => ?_⟩
  rcases q with z | z | z | z
  · exact absurd z (n 213 (by decide))
  · exact absurd z (n 215 (by decide))
  · exact absurd z (n 305 (by decide))
  · exact absurd z (n 216 (by decide))
/-- a row that is no switch and no try -/
theorem CST.pl {S : CS} {s : RS} {c : CEL} {m e k : Int} (h1 : S.r 51 c.1 = some c.2.1) (h2 : c.1 < 400) (h3 : RFR S s c.2.1 (ceT c) (ceG c) (ceW c)) (n1 : ¬ S.o c.2.1 0 = 218) (n2 : ¬ isTy (S.o c.2.1 0)) : CST S s c m e k m e k := ⟨h1, h2, h3, fun _ => ⟨rfl, rfl⟩, fun q => absurd q n1, fun _ => rfl, fun q => absurd q n2⟩
/-- push: what the class keeps -/
theorem PSR.z {S R : CS} {a m : Nat} {x1 x3 : Int32} (h : PSR S R a m x1 x3) (hm : (S.i 53).toInt = (m : Int)) (m4 : m < 399) (h54 : 0 ≤ (S.i 54).toInt ∧ (S.i 54).toInt < 2000) : CKZ S R ∧ (R.i 53).toInt = (S.i 53).toInt + 1 ∧ (R.i 54).toInt = (S.i 54).toInt + 1 ∧ R.i 55 = S.i 55 ∧ R.a 52 = S.a 52 ∧ R.i 21 = S.i 21 ∧ R.i 44 = S.i 44 := by
  obtain ⟨⟨a1, a2, a3⟩, i1, ⟨i53, i54⟩, r1, r2, w, nb, o1, -⟩ := h
  have e53 : (R.i 53).toInt = (S.i 53).toInt + 1 := by rw [i53]; exact ad1 (by omega) (by omega)
  have e54 : (R.i 54).toInt = (S.i 54).toInt + 1 := by rw [i54]; exact ad1 h54.1 (by omega)
  have e55 := i1 55 (by decide) (by decide)
  refine ⟨⟨i1 22 (by decide) (by decide), fun k hk => r2 51 k (fun z => by omega), fun k b hk hb => ?_, fun k _ => by rw [a1], by omega, by rw [e55]; exact Int.le_refl _, fun k _ => by rw [a1], fun k h1 h2 => by rw [e55] at h2; omega⟩, e53, e54, e55, by rw [a1], i1 21 (by decide) (by decide), i1 44 (by decide) (by decide)⟩
  exact o1 b (nb k b (by omega) (by omega) hb)
/-- push: the rows are paid -/
theorem PSR.ri {S R : CS} {a m : Nat} {x1 x3 : Int32} (h : PSR S R a m x1 x3) (w : RWI S) (hm : (S.i 53).toInt = (m : Int)) (m4 : m < 399) (hq : IQ R (m + 1)) (hw : WCS R (m + 1) ≤ eI R) (hs : SGS R (m + 1) ≤ sgI R) : RWI R := by
  obtain ⟨-, -, ⟨i53, -⟩, r1, r2, z, -⟩ := h
  have e53 : (R.i 53).toInt = (m : Int) + 1 := by rw [i53, ad1 (by omega) (by omega), hm]
  have ec : (cnI R).toNat = m + 1 := by
    show (R.i 53).toInt.toNat = m + 1
    rw [e53]
    omega
  have nr := w.2.2.2.1.2
  have es : (cnI S).toNat = m := by
    show (S.i 53).toInt.toNat = m
    rw [hm]
    exact Int.toNat_natCast _
  rw [es] at nr
  refine ⟨z.1, z.2.1, z.2.2, ⟨by show 0 ≤ (R.i 53).toInt; omega, ?_⟩, by rw [ec]; exact hq, by rw [ec]; exact hw, by rw [ec]; exact hs⟩
  rw [ec]
  intro i hi
  by_cases c : i = m
  · exact ⟨a, by rw [c]; exact r1⟩
  · obtain ⟨b, hb⟩ := nr i (by omega)
    exact ⟨b, by rw [r2 51 i (fun z => c z.2)]; exact hb⟩
theorem PSR.rsq {S R : CS} {a m : Nat} {x1 x3 : Int32} (h : PSR S R a m x1 x3) (m4 : m < 399) : RSQ S R m := fun i hi => by
  obtain ⟨-, -, -, -, r2, -, nb, o1, -⟩ := h
  exact ⟨r2 51 i (fun z => by omega), fun b hb => o1 b (nb i b (by omega) (by omega) hb)⟩
/-- the class changes where nothing of it is asked -/
theorem ENV.gx {d : Int32} {S R : CS} {s : RS} (h : ENV d S s) (ei : ∀ j : Nat, j ≠ 21 → j ≠ 36 → j ≠ 38 → j ≠ 53 → j ≠ 54 → j ≠ 55 → j ≠ 56 → R.i j = S.i j) (ea : R.a 0 = S.a 0 ∧ R.a 9 = S.a 9 ∧ R.a 49 = S.a 49) (eb : R.b = S.b) (el : R.l = S.l) (w : RWI R) (sj : SJB R s) (t21 : 0 ≤ (R.i 21).toInt ∧ (R.i 21).toInt ≤ 3 * (s.i 11).toInt + 8) : ENV d R s := by
  have i32 := ei 32 (by decide) (by decide) (by decide) (by decide) (by decide) (by decide) (by decide)
  have i34 := ei 34 (by decide) (by decide) (by decide) (by decide) (by decide) (by decide) (by decide)
  have i41 := ei 41 (by decide) (by decide) (by decide) (by decide) (by decide) (by decide) (by decide)
  have i42 := ei 42 (by decide) (by decide) (by decide) (by decide) (by decide) (by decide) (by decide)
  have i43 := ei 43 (by decide) (by decide) (by decide) (by decide) (by decide) (by decide) (by decide)
  have i44 := ei 44 (by decide) (by decide) (by decide) (by decide) (by decide) (by decide) (by decide)
  have i45 := ei 45 (by decide) (by decide) (by decide) (by decide) (by decide) (by decide) (by decide)
  have i50 := ei 50 (by decide) (by decide) (by decide) (by decide) (by decide) (by decide) (by decide)
  have i24 := ei 24 (by decide) (by decide) (by decide) (by decide) (by decide) (by decide) (by decide)
  have i25 := ei 25 (by decide) (by decide) (by decide) (by decide) (by decide) (by decide) (by decide)
  have i26 := ei 26 (by decide) (by decide) (by decide) (by decide) (by decide) (by decide) (by decide)
  have i37 := ei 37 (by decide) (by decide) (by decide) (by decide) (by decide) (by decide) (by decide)
  have i13 := ei 13 (by decide) (by decide) (by decide) (by decide) (by decide) (by decide) (by decide)
  have i22 := ei 22 (by decide) (by decide) (by decide) (by decide) (by decide) (by decide) (by decide)
  obtain ⟨a0, a9, a49⟩ := ea
  obtain ⟨⟨h1, h2, ⟨t1, t2, t3, t4⟩, ⟨k1, k2, k3, k4, k5, k6⟩, h5, h6, h7, h8⟩, ⟨n1, n2, n3, n4⟩, ⟨o1, o2⟩, ⟨c1, c2, c3⟩, l1, ⟨m1, m2, m3, m4⟩, ⟨r1, r2, r3, r4, r5, r6, r7, r8, r9, r10, r11⟩⟩ := h
  refine ⟨⟨by rw [i32]; exact h1, h2, ⟨by rw [i41]; exact t1, t2, fun k hk => by rw [a0]; exact t3 k hk, fun k hk => by rw [eb]; exact t4 k hk⟩, ⟨by rw [i44]; exact k1, by rw [i42]; exact k2, by rw [i43]; exact k3, by rw [i43]; exact k4, fun q => ?_, fun q => ?_⟩, h5, h6, ?_, ?_⟩, ⟨by rw [i50]; exact n1, n2, fun k hk => by rw [eb, a49]; exact n3 k hk, n4⟩, ⟨by rw [i34]; exact o1, o2⟩, ⟨by rw [i24]; exact c1, by rw [i26]; exact c2, by rw [i25]; exact c3⟩, by unfold LTE at *; rw [i37]; exact l1, ⟨by rw [i13]; exact m1, by rw [a9]; exact m2, fun k h1 h2 => by rw [a9]; exact m3 k h1 h2, m4⟩, ⟨r1, r2, r3, by rw [i22]; exact r4, by rw [i22]; exact r5, t21.1, t21.2, w, sj, r10, r11.kd i42 i43 i44 i45 eb⟩⟩
  · rw [i43] at q
    rw [el]
    exact k5 q
  · rw [i43] at q
    rw [i45]
    exact k6 q
  · unfold LC AB BY at *
    rw [i41, i42, i43, i44, i45, el, a0]
    exact h7
  · unfold WDC at *
    rw [eb]
    exact h8
theorem ENV.psh {d : Int32} {S R : CS} {s : RS} {a m : Nat} {x1 x3 : Int32} (h : ENV d S s) (p : PSR S R a m x1 x3) (w : RWI R) (h54 : (S.i 54).toInt + 1 ≤ (s.i 11).toInt + 2) : ENV d R s := by
  have hi := i11_hi h
  have sj := h.sj
  obtain ⟨⟨a1, a2, a3⟩, i1, ⟨i53, i54⟩, -⟩ := p
  have e54 : (R.i 54).toInt = (S.i 54).toInt + 1 := by rw [i54]; exact ad1 sj.1 (by omega)
  have e55 := i1 55 (by decide) (by decide)
  have e38 := i1 38 (by decide) (by decide)
  refine h.gx (fun j _ _ _ q1 q2 _ _ => i1 j q1 q2) ⟨by rw [a1], by rw [a1], by rw [a1]⟩ a2 a3 w ?_ (by rw [i1 21 (by decide) (by decide)]; exact h.t21)
  unfold SJB at *
  rw [e55, e38]
  omega
end
