/-! both readers: log, return, yield -/
theorem XO.pre {d : Int32} {t : Nat} {S P R : CS} {s q u : RS} (f : FRB t s q) (k : TBK s q) (c : CKX S P) (h11 : (s.i 11).toInt ≤ (q.i 11).toInt) (hp : phI s ≤ phI q) (h17 : (s.i 17).toInt ≤ (q.i 17).toInt) (h19 : q.i 19 = s.i 19) (x : XO d t P q R u) : XO d t S s R u := by
  obtain ⟨w1, w2, w3, w4, w5, w6, w7, w8, w9⟩ := x
  exact ⟨w1, w2, f.tr w3, k.tr w4, c.tr w5, by omega, by omega, by omega, w9.trans h19⟩
theorem ENV.s36 {d : Int32} {S : CS} {s : RS} {v : Int32} (h : ENV d S s) : ENV d (CS.setI S 36 v) s := by
  obtain ⟨⟨h1, h2, h3, h4, h5, h6, h7, h8⟩, n, o, c, l, k, ⟨r1, r2, r3, r4, r5, r6, r7, r8, r9, r10, r11⟩⟩ := h
  exact ⟨⟨h1, h2, h3, h4, h5, h6, h7, h8⟩, n, o, c, l, k, ⟨r1, r2, r3, r4, r5, r6, r7, r8.mv rfl rfl rfl rfl ⟨rfl, rfl, rfl⟩ r8.2.2.2.2.2.2 (Int.le_refl _), r9, r10, r11⟩⟩
theorem CKX.s36 {S R : CS} (h : CKX S R) (h36 : S.i 36 = 1) : CKX S (CS.setI R 36 1) := by
  obtain ⟨⟨a1, a2, a3, a4, a5, a6⟩, b1, b2, b3, b4, b5, b6, b7, b8⟩ := h
  exact ⟨⟨a1, (ci_at _ _ _).trans h36.symm, a3, a4, a5, a6⟩, b1, b2, b3, b4, b5, b6, b7, b8⟩
theorem CKX.s36b {S R : CS} {v : Int32} (h : CKX S R) (h36 : S.i 36 = 1) : CKX S (CS.setI (CS.setI R 36 v) 36 1) := by
  obtain ⟨⟨a1, a2, a3, a4, a5, a6⟩, b1, b2, b3, b4, b5, b6, b7, b8⟩ := h
  exact ⟨⟨a1, (ci_at _ _ _).trans h36.symm, a3, a4, a5, a6⟩, b1, b2, b3, b4, b5, b6, b7, b8⟩
theorem XO.s36 {d : Int32} {t : Nat} {S R : CS} {s u : RS} (h : XO d t S s R u) (h36 : S.i 36 = 1) : XO d t S s (CS.setI R 36 1) u := by
  obtain ⟨w1, w2, w3, w4, w5, w6⟩ := h
  exact ⟨w1.s36, w2, w3, w4, w5.s36 h36, w6⟩
theorem XO.s36b {d : Int32} {t : Nat} {S R : CS} {s u : RS} {v : Int32} (h : XO d t S s R u) (h36 : S.i 36 = 1) : XO d t S s (CS.setI (CS.setI R 36 v) 36 1) u := by
  obtain ⟨w1, w2, w3, w4, w5, w6⟩ := h
  exact ⟨w1.s36.s36, w2, w3, w4, w5.s36b h36, w6⟩
/-- a statement that ends in its turn: F in the class, frame K at the word tok in the reference -/
def SXK (N : Nat) (K tok : Int32) (P : CS → RS → Prop) (F : CS → Option (Unit × CS)) : Prop := ∀ (d : Int32) (S : CS) (s U : RS) (n t : Nat) (R : Unit × CS), ENV d S s → P S s → S.i 36 = 1 → tpI s = t → s.a 64 t = K → s.a 65 t = 0 → 2 ≤ phI s → S.i 43 = tok → F S = some R → f_X12_parse_10 N n s = some U → (¬ R.2.i 32 = 0 ∧ ¬ U.i 15 = 0) ∨ ∃ (m : Nat) (u : RS), f_X12_parse_10 N m u = some U ∧ XO d t S s (CS.setI R.2 36 1) u ∧ (u.i 75 = R.2.i 36 ∧ (R.2.i 36 = 0 ∨ R.2.i 36 = 1))
/-- log, return, yield: from the word on -/
theorem y_end0 {N : Nat} (hN : 1000 ≤ N) {E1 : CS → Option (Unit × CS)} {E2 : CS → Option (Int32 × CS)} (hm1 : ∀ σ, Kf (CS.i σ 32) (E1 σ)) (hm2 : ∀ σ, Kf (CS.i σ 32) (E2 σ)) (hE : SXR N 18 E1) {d : Int32} {S : CS} {s q V U : RS} {n t : Nat} {v o x : Int32} {p1 p w r : Unit × CS} (hv : ENV d S s) (ht : tpI s = t) (hk : s.a 64 t = 6) (h10 : s.i 10 = v) (hv3 : v = 412 ∨ v = 420 ∨ v = 431) (h2 : 2 ≤ phI s) (h43 : ¬ S.i 43 = 0) (e0 : f_X9_advance N S = some p1) (e1 : f_X1_expression N E1 E2 p1.2 = some p) (e2 : f_X0_add N p.2 o x = some w) (e3 : f_X1_expect N w.2 59 = some r) (hq : f_X12_next N (RS.setA s 66 t (s.i 10)) = some q) (hV : f_X12_then N q 1 16 = some V) (g : f_X12_parse_10 N n V = some U) : (¬ r.2.i 32 = 0 ∧ ¬ U.i 15 = 0) ∨ ∃ (m : Nat) (u : RS), f_X12_parse_10 N m u = some U ∧ XO d t S s r.2 u ∧ (u.i 75 = 1 ↔ v = 412) ∧ (u.i 75 = 0 ∨ u.i 75 = 1) := by
  obtain ⟨s1, hs1⟩ : ∃ y, y = RS.setA s 66 t (s.i 10) := ⟨_, rfl⟩
  rw [← hs1] at hq
  have ev1 : ENV d S s1 := by rw [hs1]; exact setA_env (Or.inr (by omega)) hv
  have f1 : FRB t s s1 := by rw [hs1]; exact setA_frb (Or.inr ⟨by omega, by omega, Nat.le_refl _⟩)
  have k1 : TBK s s1 := by rw [hs1]; exact ⟨setA_tb0 (Or.inr (by omega)), Int.le_refl _, fun _ _ => rfl⟩
  have a66 : s1.a 66 t = v := by
    rw [hs1, ← h10]
    exact setA_at
  have a64 : s1.a 64 t = 6 := by
    rw [hs1]
    exact hk
  have i1 : s1.i = s.i := by rw [hs1]; rfl
  clear hs1
  have t1 : tpI s1 = t := by
    show (s1.i 63).toInt = (t : Int)
    rw [i1]
    exact ht
  obtain ⟨a1, a2, a3, a4, a5, a6, a7, a8, a9, a10⟩ := ev1.adv hN h43 e0 hq
  have tq := qj_63 a2 t1
  have fq : FRB (t + 1) s1 q := FRB.of a2
  have q17 : (q.i 17).toInt = (s.i 17).toInt + 1 := by rw [a4, t17_up (N := N) ev1, i1]
  have pq : phI q = phI s + 3 := by
    unfold phI
    rw [a6, q17, i1]
    omega
  have a5' : (s.i 11).toInt + 1 ≤ (q.i 11).toInt := by
    rw [i1] at a5
    exact a5
  rcases y_end1 hN hm1 hm2 hE a1 tq ((fq t (by omega)).1.trans a64) ((fq t (by omega)).2.2.1.trans a66) hv3 (by omega) e1 e2 e3 hV g with z | ⟨m, u, g3, xo, x1, x2⟩
  · exact Or.inl z
  · exact Or.inr ⟨m, u, g3, XO.pre (f1.tr (FRB.of a2)) (k1.tr (TBK.of a2 (by rw [a6]; exact Int.le_refl _) (fun j _ => by rw [a7]))) (CKX.of a3 a8 a9) (by omega) (by omega) (by omega) (by rw [a10, i1]) xo, x1, x2⟩
theorem sx_log {N : Nat} (hN : 1000 ≤ N) {E1 : CS → Option (Unit × CS)} {E2 : CS → Option (Int32 × CS)} (hm1 : ∀ σ, Kf (CS.i σ 32) (E1 σ)) (hm2 : ∀ σ, Kf (CS.i σ 32) (E2 σ)) (hE : SXR N 18 E1) : SXK N 6 202 (fun _ _ => True) (fun S => (f_X9_advance N S).bind fun p41 => (f_X1_expression N E1 E2 p41.2).bind fun p45 => (f_X0_add N p45.2 52 0).bind fun p49 => (f_X1_expect N p49.2 59).bind fun p53 => some ((), p53.2)) := by
  intro d S s U n t R hv _ h36 ht hk hs h2 h43 e g
  obtain ⟨p1, e1, e⟩ := hf_bind e
  obtain ⟨p2, e2, e⟩ := hf_bind e
  obtain ⟨p3, e3, e⟩ := hf_bind e
  obtain ⟨p4, e4, e⟩ := hf_bind e
  cases e
  have k10 := (tk_is hv (a := 202) (b := 412) (Or.inr ⟨by decide, by decide⟩) (by decide)).mp h43
  obtain ⟨m, V, hV, g2⟩ := rl_6 g ht hv.1.2.1 hk
  unfold f_X12_ending at hV
  obtain ⟨hib, hV⟩ := hf_ite hV
  rw [tp_nat ht, if_pos hs, if_neg (show ¬ s.i 10 = 420 by rw [k10]; decide)] at hV
  unfold f_X12_ending_36 f_X12_ending_63 at hV
  rw [if_neg (show ¬ (RS.setA s 66 t (s.i 10)).i 10 = 431 from fun z => absurd (k10.symm.trans z) (by decide))] at hV
  obtain ⟨q, hq, hV⟩ := hf_bind hV
  rw [ob_id] at hV
  rcases y_end0 hN hm1 hm2 hE hv ht hk k10 (Or.inl rfl) h2 (by rw [h43]; decide) e1 e2 e3 e4 hq hV g2 with z | ⟨m2, u, g3, xo, x1, x2⟩
  · exact Or.inl z
  · refine Or.inr ⟨m2, u, g3, xo.s36 h36, ?_⟩
    rw [x1.mpr rfl]
    exact ⟨h36.symm.trans xo.2.2.2.2.1.1.2.1.symm, Or.inr (xo.2.2.2.2.1.1.2.1.trans h36)⟩
/-- in the arm of a choice: both know it -/
def IAR (S : CS) (s : RS) : Prop := (0 ≤ (S.i 56).toInt ↔ ∃ g : Nat, (g : Int) < (s.i 43).toInt ∧ s.a 44 g = 3) ∧ (0 ≤ (S.i 56).toInt → (S.i 56).toInt < (S.i 53).toInt ∧ (S.i 56).toInt < 400 ∧ ∃ a : Nat, S.r 51 (S.i 56).toInt.toNat = some a)
theorem y_isin {N : Nat} {s : RS} : ∀ (n : Nat) (x : Int32) (P : Int32 × RS), 0 ≤ x.toInt → f_X12_isInArms_2 N n s x = some P → P.2 = s ∧ ((P.1 = 1 ∧ ∃ g : Nat, (g : Int) < (s.i 43).toInt ∧ s.a 44 g = 3) ∨ (P.1 = 0 ∧ ∀ g : Nat, x.toInt ≤ (g : Int) → (g : Int) < (s.i 43).toInt → ¬ s.a 44 g = 3))
  | 0, _, _, _, e => by cases e
  | n + 1, x, P, h0, e => by
    have e' : b_X12_isInArms_2 N (f_X12_isInArms_2 N n) s x = some P := e
    unfold b_X12_isInArms_2 at e'
    by_cases c : s.i 43 ≤ x
    · rw [if_pos c] at e'
      cases e'
      have := le_int c
      exact ⟨rfl, Or.inr ⟨rfl, fun g g1 g2 => by omega⟩⟩
    · rw [if_neg c] at e'
      have lt := lt_int (Int32.not_le.mp c)
      obtain ⟨hib, e'⟩ := hf_ite e'
      have ck := clampI h0
      have h460 := hib.2
      by_cases c3 : s.a 44 (x.toNatClampNeg) = 3
      · rw [if_pos c3] at e'
        cases e'
        exact ⟨rfl, Or.inl ⟨rfl, x.toNatClampNeg, by omega, c3⟩⟩
      · rw [if_neg c3] at e'
        have e1 : (x + 1).toInt = x.toInt + 1 := ad1 h0 (by omega)
        obtain ⟨p1, p2⟩ := y_isin n (x + 1) P (by omega) e'
        refine ⟨p1, p2.imp id (fun ⟨q1, q2⟩ => ⟨q1, fun g g1 g2 => ?_⟩)⟩
        by_cases z : (g : Int) = x.toInt
        · have : g = x.toNatClampNeg := by omega
          rw [this]
          exact c3
        · exact q2 g (by omega) g2
theorem sx_return {N : Nat} (hN : 1000 ≤ N) {E1 : CS → Option (Unit × CS)} {E2 : CS → Option (Int32 × CS)} (hm1 : ∀ σ, Kf (CS.i σ 32) (E1 σ)) (hm2 : ∀ σ, Kf (CS.i σ 32) (E2 σ)) (hE : SXR N 18 E1) : SXK N 6 210 IAR (f_X7_giveBack N E1 E2) := by
  intro d S s U n t R hv hA h36 ht hk hs h2 h43 e g
  have k10 := (tk_is hv (a := 210) (b := 420) (Or.inr ⟨by decide, by decide⟩) (by decide)).mp h43
  obtain ⟨m, V, hV, g2⟩ := rl_6 g ht hv.1.2.1 hk
  unfold f_X12_ending at hV
  obtain ⟨hib, hV⟩ := hf_ite hV
  rw [tp_nat ht, if_pos hs, if_pos k10] at hV
  obtain ⟨P, hP, hV⟩ := hf_bind hV
  unfold f_X12_isInArms at hP
  obtain ⟨p1, p2⟩ := y_isin N 0 P (by decide) hP
  unfold f_X7_giveBack at e
  have a44 : ∀ g : Nat, (RS.setA s 66 t (s.i 10)).a 44 g = s.a 44 g := fun _ => rfl
  by_cases c : S.i 56 < 0
  · rw [if_pos c] at e
    have c' : ¬ 0 ≤ (S.i 56).toInt := by
      have := lt_int c
      rw [z_t0] at this
      omega
    have P0 : P.1 = 0 := by
      rcases p2 with ⟨-, q⟩ | ⟨q, -⟩
      · exact absurd (hA.1.mpr q) c'
      · exact q
    rw [if_pos P0, p1] at hV
    unfold f_X12_ending_36 f_X12_ending_63 at hV
    rw [if_neg (show ¬ (RS.setA s 66 t (s.i 10)).i 10 = 431 from fun z => absurd (k10.symm.trans z) (by decide))] at hV
    obtain ⟨q, hq, hV⟩ := hf_bind hV
    rw [ob_id] at hV
    unfold f_X7_giveBack_22 at e
    obtain ⟨p1', e1, e⟩ := hf_bind e
    obtain ⟨p2', e2, e⟩ := hf_bind e
    obtain ⟨p3, e3, e⟩ := hf_bind e
    obtain ⟨p4, e4, e⟩ := hf_bind e
    cases e
    rcases y_end0 hN hm1 hm2 hE hv ht hk k10 (Or.inr (Or.inl rfl)) h2 (by rw [h43]; decide) e1 e2 e3 e4 hq hV g2 with z | ⟨m2, u, g3, xo, x1, x2⟩
    · exact Or.inl z
    · refine Or.inr ⟨m2, u, g3, xo.s36b h36, ?_⟩
      have n1 : ¬ u.i 75 = 1 := fun z => absurd (x1.mp z) (by decide)
      rw [x2.resolve_right n1]
      exact ⟨(ci_at _ _ _).symm, Or.inl (ci_at _ _ _)⟩
  · rw [if_neg c] at e
    obtain ⟨f, ef, e⟩ := hf_bind e
    have ff := y_fail (by decide) ef
    have c' : 0 ≤ (S.i 56).toInt := by
      have := le_int (Int32.not_lt.mp c)
      rw [z_t0] at this
      exact this
    have P1 : ¬ P.1 = 0 := fun q => by
      rcases p2 with ⟨z, -⟩ | ⟨-, z⟩
      · rw [z] at q
        exact n10 q
      · obtain ⟨g, g1, g2⟩ := hA.1.mp c'
        exact z g (by rw [z_t0]; omega) g1 g2
    rw [if_neg P1, p1] at hV
    unfold f_X12_ending_53 at hV
    rw [e_fail, ob_some, if_pos (show (RS.setA s 66 t (s.i 10)).i 15 = 0 from hv.1.2.1)] at hV
    cases hV
    refine Or.inl ⟨by rw [kF_X7_giveBack_22 N E1 E2 hm1 hm2 f.2 R e ff]; exact ff, u_flt g2 ?_⟩
    show ¬ (5 : Int32) = 0
    decide
theorem e_row {N : Nat} {S : CS} {x : Int32} {P : Option Nat × CS} (e : f_X6_row N S x = some P) : P.2 = S ∧ ((0 ≤ x.toInt ∧ x.toInt < (S.i 53).toInt ∧ x.toInt < 400 ∧ P.1 = S.r 51 x.toInt.toNat) ∨ ((x.toInt < 0 ∨ (S.i 53).toInt ≤ x.toInt ∨ 400 ≤ x.toInt) ∧ P.1 = none)) := by
  unfold f_X6_row f_X6_row_30 at e
  have e4 : (400 : Int32).toInt = 400 := by decide
  by_cases c : x < 0
  · rw [if_pos c] at e
    cases e
    have := lt_int c
    rw [z_t0] at this
    exact ⟨rfl, Or.inr ⟨Or.inl this, rfl⟩⟩
  · rw [if_neg c] at e
    have x0 := le_int (Int32.not_lt.mp c)
    rw [z_t0] at x0
    by_cases c2 : S.i 53 ≤ x
    · rw [if_pos c2] at e
      cases e
      exact ⟨rfl, Or.inr ⟨Or.inr (Or.inl (le_int c2)), rfl⟩⟩
    · rw [if_neg c2] at e
      by_cases c3 : 400 ≤ x
      · rw [if_pos c3] at e
        cases e
        have := le_int c3
        exact ⟨rfl, Or.inr ⟨Or.inr (Or.inr (by omega)), rfl⟩⟩
      · rw [if_neg c3] at e
        obtain ⟨-, e⟩ := hf_ite e
        have l2 := lt_int (Int32.not_le.mp c2)
        have l3 := lt_int (Int32.not_le.mp c3)
        have fin : P = (S.r 51 x.toNatClampNeg, S) := by
          cases hr : S.r 51 x.toNatClampNeg with
          | none =>
            rw [hr] at e
            exact (Option.some.inj e).symm
          | some a =>
            rw [hr] at e
            exact (Option.some.inj e).symm
        rw [fin]
        exact ⟨rfl, Or.inl ⟨x0, l2, by omega, rfl⟩⟩
theorem sx_yield {N : Nat} (hN : 1000 ≤ N) {E1 : CS → Option (Unit × CS)} {E2 : CS → Option (Int32 × CS)} (hm1 : ∀ σ, Kf (CS.i σ 32) (E1 σ)) (hm2 : ∀ σ, Kf (CS.i σ 32) (E2 σ)) (hE : SXR N 18 E1) : SXK N 6 221 IAR (f_X7_yieldValue N E1 E2) := by
  intro d S s U n t R hv hA h36 ht hk hs h2 h43 e g
  have k10 := (tk_is hv (a := 221) (b := 431) (Or.inr ⟨by decide, by decide⟩) (by decide)).mp h43
  obtain ⟨m, V, hV, g2⟩ := rl_6 g ht hv.1.2.1 hk
  unfold f_X12_ending at hV
  obtain ⟨hib, hV⟩ := hf_ite hV
  rw [tp_nat ht, if_pos hs, if_neg (show ¬ s.i 10 = 420 by rw [k10]; decide)] at hV
  unfold f_X12_ending_36 at hV
  rw [if_pos (show (RS.setA s 66 t (s.i 10)).i 10 = 431 from k10)] at hV
  obtain ⟨P, hP, hV⟩ := hf_bind hV
  unfold f_X12_isInArms at hP
  obtain ⟨p1, p2⟩ := y_isin N 0 P (by decide) hP
  unfold f_X7_yieldValue at e
  obtain ⟨r, er, e⟩ := hf_bind e
  obtain ⟨r1, r2⟩ := e_row er
  rcases r2 with ⟨y1, y2, y3, y4⟩ | ⟨y1, y4⟩
  · obtain ⟨-, -, a, ha⟩ := hA.2 y1
    rw [y4, ha] at e
    have P1 : ¬ P.1 = 0 := fun q => by
      rcases p2 with ⟨z, -⟩ | ⟨-, z⟩
      · rw [z] at q
        exact n10 q
      · obtain ⟨g, g1, g2⟩ := hA.1.mp y1
        exact z g (by rw [z_t0]; omega) g1 g2
    rw [if_neg P1, p1] at hV
    unfold f_X12_ending_63 at hV
    obtain ⟨q, hq, hV⟩ := hf_bind hV
    rw [ob_id] at hV
    have e' : ((f_X9_advance N r.2).bind fun p11 => (f_X1_expression N E1 E2 p11.2).bind fun p15 => if oK p15.2 a 0 then (f_X0_add N p15.2 61 (((CS.o p15.2 a 9) * 32) + (CS.o p15.2 a 2))).bind fun p20 => (f_X1_expect N p20.2 59).bind fun p24 => some ((), CS.setI p24.2 36 0) else none) = some R := e
    rw [r1] at e'
    obtain ⟨p1', e1, e'⟩ := hf_bind e'
    obtain ⟨p2', e2, e'⟩ := hf_bind e'
    obtain ⟨-, e'⟩ := hf_ite e'
    obtain ⟨p3, e3, e'⟩ := hf_bind e'
    obtain ⟨p4, e4, e'⟩ := hf_bind e'
    cases e'
    rcases y_end0 hN hm1 hm2 hE hv ht hk k10 (Or.inr (Or.inr rfl)) h2 (by rw [h43]; decide) e1 e2 e3 e4 hq hV g2 with z | ⟨m2, u, g3, xo, x1, x2⟩
    · exact Or.inl z
    · refine Or.inr ⟨m2, u, g3, xo.s36b h36, ?_⟩
      have n1 : ¬ u.i 75 = 1 := fun z => absurd (x1.mp z) (by decide)
      rw [x2.resolve_right n1]
      exact ⟨(ci_at _ _ _).symm, Or.inl (ci_at _ _ _)⟩
  · rw [y4] at e
    have e' : ((f_X1_fail N r.2 5 (r.2.i 44)).bind fun p7 => some ((), p7.2)) = some R := e
    obtain ⟨f, ef, e'⟩ := hf_bind e'
    cases e'
    have ff := y_fail (by decide) ef
    have P0 : P.1 = 0 := by
      rcases p2 with ⟨-, q⟩ | ⟨q, -⟩
      · have := hA.2 (hA.1.mpr q)
        have := hA.1.mpr q
        omega
      · exact q
    rw [if_pos P0, p1] at hV
    unfold f_X12_ending_53 at hV
    rw [e_fail, ob_some, if_pos (show (RS.setA s 66 t (s.i 10)).i 15 = 0 from hv.1.2.1)] at hV
    cases hV
    refine Or.inl ⟨ff, u_flt g2 ?_⟩
    show ¬ (5 : Int32) = 0
    decide
