/-! both readers: a row more, all of it -/
theorem STK.mem {S : CS} {s : RS} : ∀ (L : List CEL) (m e k : Int), STK S s L m e k → ∀ q ∈ L, ∃ m1 e1 k1 m2 e2 k2 : Int, CST S s q m1 e1 k1 m2 e2 k2
  | [], _, _, _, _, q, hq => absurd hq List.not_mem_nil
  | c :: L, m, e, k, h, q, hq => by
    obtain ⟨m', e', k', h1, -, h3⟩ := h
    rcases List.mem_cons.mp hq with rfl | hq
    · exact ⟨m, e, k, m', e', k', h1⟩
    · exact STK.mem L m' e' k' h3 q hq
theorem STK.ids {S : CS} {s : RS} {L : List CEL} {m e k : Int} (h : STK S s L m e k) : ∀ q ∈ L, isTy (S.o q.2.1 0) → 0 ≤ (s.a 66 (ceT q)).toInt ∧ (s.a 66 (ceT q)).toInt < (s.i 29).toInt := fun q hq t => by
  obtain ⟨m1, e1, k1, m2, e2, k2, g⟩ := STK.mem L m e k h q hq
  exact (g.2.2.1.2.2.2.2.2.2.2.2.2.2.2.2 t).1.2.1
/-- from S, s (where the statement began); P, sp: before the row is pushed -/
theorem COR.push {d : Int32} {B : CS} {b : RS} {t0 T : Nat} {L : List CEL} {x x1 : Int} {S P R : CS} {s sp u : RS} {c c1 : CEL} (h : COR d B b t0 (c :: L) x S s) (hin : INL S s T (c :: L)) (hT : t0 ≤ T) (ev : ENV d R u) (f : FRB T s u) (tb : TBR s u) (cd : CDK (s.i 20).toInt s u) (nm : u.i 2 = s.i 2 ∧ u.i 3 = s.i 3 ∧ u.i 8 = s.i 8 ∧ u.a 1 = s.a 1 ∧ u.a 4 = s.a 4 ∧ u.b 9 = s.b 9) (l43 : (s.i 43).toInt ≤ (u.i 43).toInt) (l56 : (s.i 56).toInt ≤ (u.i 56).toInt) (ck : CKZ S R) (jP : JMQ P sp (c :: L) (b.i 59).toInt (b.i 29).toInt) (hinP : INL P sp T (c :: L)) (eP : ∀ y ∈ c :: L, R.o y.2.1 = P.o y.2.1) (fP : FRB T sp u) (gP : ∀ y ∈ c :: L, isGo (P.o y.2.1 0) → ∀ v : Int, flg u (ceG y) v = flg sp (ceG y) v) (bP : (b.i 29).toInt ≤ (sp.i 29).toInt ∧ (∀ y ∈ c :: L, isTy (P.o y.2.1 0) → (sp.a 66 (ceT y)).toInt < (sp.i 29).toInt) ∧ (∀ j : Nat, (j : Int) < (sp.i 59).toInt → (sp.a 62 j).toInt < (sp.i 29).toInt)) (nP : 0 ≤ (P.i 54).toInt ∧ 0 ≤ (P.i 55).toInt) (e54 : (R.i 54).toInt = (P.i 54).toInt + 1) (e55 : R.i 55 = P.i 55) (e52 : R.a 52 = P.a 52) (i38 : (R.i 38).toInt = (S.i 38).toInt + (nDp (R.o c1.2.1 0) : Int)) (l53 : (S.i 53).toInt ≤ (R.i 53).toInt) (rt : RTE S R) (q : (s.i 11).toInt ≤ (u.i 11).toInt ∧ phI s + dbt (R.o c1.2.1 0) ≤ phI u ∧ (s.i 17).toInt ≤ (u.i 17).toInt ∧ (u.i 19).toInt = (s.i 19).toInt + (nSg (R.o c1.2.1 0) : Int)) (q54 : (R.i 54).toInt ≤ (u.i 11).toInt + 1) (q21 : (R.i 21).toInt ≤ 3 * (u.i 11).toInt) (n8 : 8 * ((u.i 38).toInt - 2) ≤ (u.i 11).toInt) (l38 : (s.i 38).toInt ≤ (u.i 38).toInt) (e59 : u.i 59 = sp.i 59) (e60 : u.a 60 = sp.a 60) (e61 : u.a 61 = sp.a 61) (e62 : u.a 62 = sp.a 62)
    (cst : CST R u c1 (R.i 22).toInt (u.i 24).toInt (u.i 33).toInt (R.i 22).toInt (u.i 24).toInt (u.i 33).toInt) (lnk : LNK R c1 c) (low : LOW R u c) (lb : LBC R u (c1 :: c :: L) x1) (iar : IAR R u) (hcol : ∃ col : Nat → Option (Nat × Bool), COL R u (c1 :: c :: L) col (b.i 20).toInt) (s1 : (R.o c1.2.1 1).toInt = (P.i 54).toInt + 1) (s14 : R.o c1.2.1 14 = P.i 55) (n216 : ¬ R.o c1.2.1 0 = 216) (hg : isGo (R.o c1.2.1 0) → ∀ b : Int, flg u (ceG c1) b = 0) (hy : isTy (R.o c1.2.1 0) → (u.a 66 (ceT c1)).toInt = (sp.i 29).toInt) (e56 : R.i 56 = S.i 56) (g3 : R.o c1.2.1 3 = S.i 50) : COR d B b t0 (c1 :: c :: L) x1 R u := by
  obtain ⟨h1, h2, h3, h4, h5, ⟨h6, h7, h8, h9⟩, ⟨h10, h11, h12, hsg⟩, h13, ⟨h14, h15, h16⟩, h17, ⟨h18, h19, h20, -⟩⟩ := h
  have eo := fun c hc => (hin.o ck c hc).1
  obtain ⟨d1, d2⟩ := DSM.eq (c :: L) eo
  have ord := STK.ord L c _ _ _ h2
  have n1 := lnk.1
  have hn : ∀ y ∈ c :: L, y.1 < c1.1 := fun y hy => by
    rcases List.mem_cons.mp hy with rfl | hy
    · omega
    · have := ord y hy
      omega
  have st : STK R u (c :: L) (R.i 22).toInt (u.i 24).toInt (u.i 33).toInt := by
    have z := STK.mv ck f tb cd (c :: L) _ _ _ h2 hin (Int.le_refl _) (Int.le_refl _) (Int.le_refl _)
    rw [ck.1]
    exact z.hi (tb.2.2.2.2.2.2.2.2.2.1) (tb.2.2.2.2.2.2.2.1)
  have jq : JMQ R u (c1 :: c :: L) (b.i 59).toInt (b.i 29).toInt := jP.push hinP eP e55 e52 e54 fP gP e59 e60 e61 e62 nP s1 s14 hn n216 hg hy bP.1 bP.2.1 bP.2.2
  refine ⟨ev, st.push cst lnk low, jq, lb, h5.mv ck rt (by have := h5.2.2.1; omega) e56, ⟨h6.tr (f.mo hT), h7.mv tb (by have := h7.1; omega) (by have := h7.2.1; omega) (by have := h7.2.2.1; omega), h8.tr (cd.wk h8.1), ⟨nm.1.trans h9.1, nm.2.1.trans h9.2.1, nm.2.2.1.trans h9.2.2.1, nm.2.2.2.1.trans h9.2.2.2.1, nm.2.2.2.2.1.trans h9.2.2.2.2.1, nm.2.2.2.2.2.trans h9.2.2.2.2.2⟩⟩, ⟨by omega, ?_, by omega, ?_⟩, ?_, ⟨q21, n8, q54⟩, iar, h18, h19, h20, hcol⟩
  · show phI b + (dbt (R.o c1.2.1 0) + PDM R (c :: L)) ≤ phI u
    rw [d2]
    omega
  · show (u.i 19).toInt = (b.i 19).toInt + ((nSg (R.o c1.2.1 0) : Int) + SSM R (c :: L))
    rw [SSM.eo (c :: L) eo]
    omega
  · refine ⟨?_, ?_⟩
    · show (R.i 38).toInt = (B.i 38).toInt + ((nDp (R.o c1.2.1 0) : Int) + DSM R (c :: L))
      rw [d1, i38, h13.1]
      omega
    · have l50 : (S.i 50).toInt ≤ (R.i 50).toInt := by
        rw [h1.2.1.1, ev.2.1.1]
        exact l38
      have b50 : (b.i 38).toInt ≤ (S.i 50).toInt := by
        rw [h1.2.1.1]
        exact h7.1
      refine ⟨fun y hy2 => ?_, fun y hy2 z hz2 l => ?_, ?_, fun y hy2 => ⟨fun t z => ?_, fun t z => ?_⟩⟩
      · rcases List.mem_cons.mp hy2 with e0 | hy2
        · rw [e0, g3]
          exact ⟨b50, l50⟩
        · rw [eo y hy2]
          have := h13.2.1 y hy2
          omega
      · rcases List.mem_cons.mp hy2 with e0 | hy2
        · rcases List.mem_cons.mp hz2 with e3 | hz2
          · rw [e0, e3]
            exact Int.le_refl _
          · have := hn z hz2
            rw [e0] at l
            omega
        · rcases List.mem_cons.mp hz2 with e3 | hz2
          · rw [e3, g3, eo y hy2]
            exact (h13.2.1 y hy2).2
          · rw [eo y hy2, eo z hz2]
            exact h13.2.2.1 y hy2 z hz2 l
      · have z := h13.2.2.2.1
        rw [← cfl.eq (c :: L) _ eo, ← ck.1] at z
        have e1 : cfl R (c1 :: c :: L) (R.i 22).toInt = cfl R (c :: L) (if R.o c1.2.1 0 = 218 then (R.o c1.2.1 13).toInt else (R.i 22).toInt) := rfl
        rw [e1]
        by_cases k : R.o c1.2.1 0 = 218
        · rw [if_pos k, ← (cst.2.2.2.2.1 k).1]
          exact z
        · rw [if_neg k]
          exact z
      · rcases List.mem_cons.mp hy2 with e0 | hy2
        · rw [e0] at t z
          exfalso
          obtain ⟨-, Lk, -, -, ⟨x6, -⟩, x7⟩ := cst.2.2.2.2.2.2 t
          cases Lk with
          | nil =>
            have := x6 rfl
            omega
          | cons j Lk =>
            have := x7 j List.mem_cons_self
            omega
        · rw [eo y hy2] at t
          rw [(FRB72 hin f y hy2).1] at z ⊢
          exact (h13.2.2.2.2 y hy2).1 t z
      · rcases List.mem_cons.mp hy2 with e0 | hy2
        · rw [e0] at t z
          exfalso
          obtain ⟨-, -, -, Le, -, -, ⟨x6, -⟩, x7⟩ := cst.2.2.2.2.1 t
          cases Le with
          | nil =>
            have := x6 rfl
            omega
          | cons j Le =>
            have := x7 j List.mem_cons_self
            omega
        · rw [eo y hy2] at t
          rw [(FRB72 hin f y hy2).2] at z ⊢
          exact (h13.2.2.2.2 y hy2).2 t z
/-- the jumps, where the row is pushed right away -/
theorem COR.jp {d : Int32} {B : CS} {b : RS} {t0 : Nat} {L : List CEL} {x : Int} {S : CS} {s : RS} (h : COR d B b t0 L x S s) : ((b.i 29).toInt ≤ (s.i 29).toInt ∧ (∀ y ∈ L, isTy (S.o y.2.1 0) → (s.a 66 (ceT y)).toInt < (s.i 29).toInt) ∧ (∀ j : Nat, (j : Int) < (s.i 59).toInt → (s.a 62 j).toInt < (s.i 29).toInt)) ∧ 0 ≤ (S.i 54).toInt ∧ 0 ≤ (S.i 55).toInt := by
  obtain ⟨h1, h2, h3, h4, h5, ⟨h6, h7, h8, h9⟩, -⟩ := h
  have sj := h1.sj
  exact ⟨⟨h7.2.2.2.2.2.2.2.2.1, fun y hy z => (h2.ids y hy z).2, h1.wp.2⟩, sj.1, sj.2.2.1⟩
