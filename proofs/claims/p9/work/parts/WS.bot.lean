/-! both readers: && and || -/
/-- a condition: also whether it is just true -/
def SXN (N : Nat) (K : Int32) (E : CS → Option (Int32 × CS)) : Prop := ∀ (d : Int32) (S : CS) (s U : RS) (n t : Nat) (R : Int32 × CS), ENV d S s → tpI s = t → s.a 64 t = K → s.a 65 t = 0 → 3 ≤ phI s → E S = some R → f_X12_parse_10 N n s = some U → (¬ R.2.i 32 = 0 ∧ ¬ U.i 15 = 0) ∨ ∃ (m : Nat) (u : RS), f_X12_parse_10 N m u = some U ∧ XO d t S s R.2 u ∧ (R.1 = 0 ∨ R.1 = 1) ∧ (R.1 = 1 ↔ (s.i 10 = 432 ∧ (u.i 17).toInt = (s.i 17).toInt + 1))
def LPB (N : Nat) (c : Int32) (E : CS → Option (Int32 × CS)) (L : Nat → CS → Int32 → Int32 → Option (Int32 × CS)) : Prop := (∀ S y x, L 0 S y x = none) ∧ (∀ n S y x R, L (n + 1) S y x = some R → (((900 : Int32) ≤ x ∨ ¬ S.i 43 = c) ∧ ∃ w : Unit × CS, f_X0_aim N S y = some w ∧ R = (0, w.2)) ∨ (¬ (900 : Int32) ≤ x ∧ S.i 43 = c ∧ ∃ (o : Int32) (p w : Unit × CS) (q : Int32 × CS), f_X9_advance N S = some p ∧ f_X0_add N p.2 o y = some w ∧ E w.2 = some q ∧ L n q.2 y (x + 1) = some R)) ∧ (∀ n S y x R, L n S y x = some R → ¬ S.i 32 = 0 → ¬ R.2.i 32 = 0)
theorem t17_up {N : Nat} {d : Int32} {S : CS} {s : RS} (hv : ENV d S s) : (s.i 17 + 1).toInt = (s.i 17).toInt + 1 := by
  obtain ⟨h1, -, -, -, -, -, ⟨r1, r2, r3, r4, r5, -⟩⟩ := hv
  have b5 := h1.2.2.2.2.1
  have b3 := h1.2.2.1.2.1
  have e1' : (1 : Int32).toInt = 1 := by decide
  have lc := h1.2.2.2.2.2.2.1.2.1
  have k11 := h1.2.2.2.1.1
  have k12 := h1.2.2.2.1.2.1
  rw [k11, k12] at lc
  unfold phI at r2
  rw [toInt_add] <;> rw [e1'] <;> omega
theorem i11_hi {d : Int32} {S : CS} {s : RS} (hv : ENV d S s) : 0 ≤ (s.i 11).toInt ∧ (s.i 11).toInt ≤ 900 := by
  obtain ⟨h1, -⟩ := hv
  have b5 := h1.2.2.2.2.1
  have b3 := h1.2.2.1.2.1
  have lc := h1.2.2.2.2.2.2.1.2.1
  have k11 := h1.2.2.2.1.1
  have k12 := h1.2.2.2.1.2.1
  rw [k11, k12] at lc
  omega
theorem ENV.nt {N : Nat} {d : Int32} {S : CS} {s : RS} {w : Int32 × CS} (h : ENV d S s) (h21 : (S.i 21).toInt + 1 ≤ 3 * (s.i 11).toInt + 8) (e : f_X0_newTarget N S = some w) : ENV d w.2 s ∧ w.1.toInt = (S.i 21).toInt ∧ (w.2.i 21).toInt = (S.i 21).toInt + 1 := by
  have hi := i11_hi h
  unfold f_X0_newTarget at e
  cases e
  obtain ⟨⟨h1, h2, h3, h4, h5, h6, h7, h8⟩, n, o, c, l, k, ⟨r1, r2, r3, r4, r5, r6, r7, r8, r9, r10, r11⟩⟩ := h
  have a : (S.i 21 + 1).toInt = (S.i 21).toInt + 1 := ad1 r6 (by omega)
  have e1 : (1 : Int32).toInt = 1 := by decide
  have b : (S.i 21 + 1 - 1).toInt = (S.i 21).toInt := by
    rw [toInt_sub] <;> rw [a, e1] <;> omega
  refine ⟨⟨⟨h1, h2, h3, h4, h5, h6, h7, h8⟩, n, o, c, l, k, ⟨r1, r2, r3, r4, r5, ?_, ?_, r8.mv rfl rfl rfl rfl ⟨rfl, rfl, rfl⟩ r8.2.2.2.2.2.2 (Int.le_refl _), r9, r10, r11⟩⟩, b, a⟩
  · show 0 ≤ (S.i 21 + 1).toInt
    omega
  · show (S.i 21 + 1).toInt ≤ 3 * (s.i 11).toInt + 8
    omega
theorem setA_tb0 {s : RS} {k j : Nat} {v : Int32} (hk : k = 22 ∨ (64 ≤ k ∧ k ≤ 73)) : TBZ s (RS.setA s k j v) := by
  have e : ∀ m : Nat, m ≠ k → (RS.setA s k j v).a m = s.a m := fun m hm => if_neg hm
  exact ⟨⟨rfl, rfl, rfl, rfl, rfl, rfl, rfl, e 1 (by omega), e 4 (by omega), rfl⟩, fun n _ => ⟨rfl, by rw [e 40 (by omega)], by rw [e 41 (by omega)]⟩, fun n _ => ⟨by rw [e 44 (by omega)], rfl, by rw [e 46 (by omega)], by rw [e 47 (by omega)], by rw [e 50 (by omega)], by rw [e 51 (by omega)], by rw [e 48 (by omega)], by rw [e 49 (by omega)]⟩, fun n _ => ⟨by rw [e 57 (by omega)], by rw [e 58 (by omega)]⟩, ⟨Int.le_refl _, fun n h1 h2 => absurd (show (n : Int) < (s.i 59).toInt from h2) (by omega)⟩, fun n _ => ⟨by rw [e 60 (by omega)], by rw [e 61 (by omega)], by rw [e 62 (by omega)]⟩, Int.le_refl _, fun n _ => by rw [e 30 (by omega)], Int.le_refl _, fun n _ => ⟨by rw [e 34 (by omega)], by rw [e 37 (by omega)]⟩, Int.le_refl _, fun n _ => ⟨by rw [e 25 (by omega)], by rw [e 27 (by omega)], by rw [e 28 (by omega)]⟩⟩
theorem setA_env {d : Int32} {S : CS} {s : RS} {k j : Nat} {v : Int32} (hk : k = 22 ∨ (64 ≤ k ∧ k ≤ 73)) (h : ENV d S s) : ENV d S (RS.setA s k j v) := by
  have e : ∀ m : Nat, m ≠ k → (RS.setA s k j v).a m = s.a m := fun m hm => if_neg hm
  exact h.kq rfl rfl rfl rfl rfl rfl rfl (e 1 (by omega)) (e 4 (by omega)) (e 41 (by omega)) rfl rfl rfl rfl rfl rfl rfl rfl rfl rfl ⟨h.2.2.2.2.2.2.1, h.2.2.2.2.2.2.2.1⟩ (h.wp.of (Int.le_refl _) rfl rfl rfl (e 58 (by omega)) (e 62 (by omega)))
theorem setA_frb {s : RS} {t k j : Nat} {v : Int32} (hk : k = 22 ∨ (64 ≤ k ∧ k ≤ 73 ∧ t ≤ j)) : FRB t s (RS.setA s k j v) := by
  intro i hi
  have e : ∀ m : Nat, 64 ≤ m → m ≤ 73 → (RS.setA s k j v).a m i = s.a m i := fun m h1 h2 => by
    by_cases c : m = k
    · rw [c]
      show (if k = k then upd (s.a k) j v else s.a k) i = s.a k i
      rw [if_pos rfl]
      exact if_neg (by omega)
    · show (if m = k then upd (s.a k) j v else s.a m) i = s.a m i
      rw [if_neg c]
  exact ⟨e 64 (by omega) (by omega), e 65 (by omega) (by omega), e 66 (by omega) (by omega), e 67 (by omega) (by omega), e 68 (by omega) (by omega), e 69 (by omega) (by omega), e 70 (by omega) (by omega), e 71 (by omega) (by omega), e 72 (by omega) (by omega), e 73 (by omega) (by omega), rfl⟩
theorem sx_bloop {N : Nat} (hN : 1000 ≤ N) {K K2 c sg op : Int32} {E : CS → Option (Int32 × CS)} {L : Nat → CS → Int32 → Int32 → Option (Int32 × CS)} (hE : SXN N K2 E) (hL : LPB N c E L) (h0 : ¬ c = 0) (hc : tyR c) (hsg : tm c = sg)
    (hK : ∀ (n : Nat) (s U : RS) (t : Nat), f_X12_parse_10 N n s = some U → tpI s = t → s.i 15 = 0 → s.a 64 t = K → ∃ (m : Nat) (V : RS), f_X12_both N s (s.i 63) K2 sg op = some V ∧ f_X12_parse_10 N m V = some U) :
    ∀ (n1 n t : Nat) (d y x : Int32) (S : CS) (s U : RS) (R : Int32 × CS) (φ c0 : Int), ENV d S s → tpI s = t → s.a 64 t = K → (s.a 65 t = 1 ∨ (s.a 65 t = 2 ∧ c0 ≤ (s.a 66 t).toInt)) → φ ≤ phI s → 1 ≤ φ → 0 ≤ c0 → c0 ≤ (s.i 20).toInt → 0 ≤ x.toInt → x.toInt ≤ (s.i 11).toInt → L n1 S y x = some R → f_X12_parse_10 N n s = some U → (¬ R.2.i 32 = 0 ∧ ¬ U.i 15 = 0) ∨ ∃ (m : Nat) (u : RS), f_X12_parse_10 N m u = some U ∧ ENV d R.2 u ∧ tpI u = (t : Int) - 1 ∧ FRB t s u ∧ TBZ s u ∧ CDK c0 s u ∧ CKX S R.2 ∧ (s.i 11).toInt ≤ (u.i 11).toInt ∧ φ ≤ phI u ∧ (s.i 17).toInt ≤ (u.i 17).toInt ∧ R.1 = 0 ∧ (S.i 43 = c → (s.i 17).toInt + 2 ≤ (u.i 17).toInt ∧ (R.2.i 21).toInt + 2 * (S.i 44).toInt + 1 ≤ (S.i 21).toInt + 2 * (R.2.i 44).toInt) ∧ u.i 19 = s.i 19 := by
  intro n1
  induction n1 with
  | zero =>
    intro n t d y x S s U R φ c0 _ _ _ _ _ _ _ _ _ _ e
    rw [hL.1] at e
    cases e
  | succ n1 ih =>
    intro n t d y x S s U R φ c0 hv ht hk hs hp hφ hc0 hcd hx0 hx e g
    have h15 := hv.1.2.1
    obtain ⟨m, V, hV, g2⟩ := hK n s U t g ht h15 hk
    have en := tp_nat ht
    have t9 : t < 1000 := by
      have := (rl_0 g ht h15).2.1.2
      have h2 : (s.i 63).toInt = (t : Int) := ht
      omega
    have is := hv.1.2.2.2.1.is hc hsg
    -- behind what aims the instruction of the part before
    obtain ⟨s2, v2, k2, d2, f2, j2, hV2⟩ : ∃ s2 : RS, ENV d S s2 ∧ TBZ s s2 ∧ CDK c0 s s2 ∧ FRB (t + 1) s s2 ∧ (s2.i 17 = s.i 17 ∧ s2.i 10 = s.i 10 ∧ s2.i 11 = s.i 11 ∧ s2.i 20 = s.i 20 ∧ s2.i 63 = s.i 63 ∧ s2.i 19 = s.i 19) ∧ f_X12_both_41 N s2 (s.i 63) K2 sg op = some V := by
      unfold f_X12_both at hV
      obtain ⟨-, hV⟩ := hf_ite hV
      rw [en] at hV
      rcases hs with c1 | ⟨c2, c3⟩
      · rw [if_neg (by rw [c1]; decide), if_neg (by rw [c1]; decide)] at hV
        exact ⟨s, hv, TBZ.rf s, ⟨Int.le_refl _, fun _ _ => rfl⟩, FRB.rf _ s, ⟨rfl, rfl, rfl, rfl, rfl, rfl⟩, hV⟩
      · rw [if_neg (by rw [c2]; decide), if_pos c2] at hV
        obtain ⟨ib9, hV⟩ := hf_ite hV
        have ck := clampI ib9.1
        refine ⟨_, setA_env (Or.inl rfl) hv, setA_tb0 (Or.inl rfl), ⟨Int.le_refl _, fun j hj => ?_⟩, setA_frb (Or.inl rfl), ⟨rfl, rfl, rfl, rfl, rfl, rfl⟩, hV⟩
        show upd (s.a 22) _ _ j = s.a 22 j
        exact if_neg (by omega)
    have ht2 : tpI s2 = t := by
      show (s2.i 63).toInt = (t : Int)
      rw [j2.2.2.2.2.1]
      exact ht
    have p2 : phI s2 = phI s := by
      unfold phI
      rw [j2.1, j2.2.2.2.1]
    unfold f_X12_both_41 at hV2
    rcases hL.2.1 n1 S y x R e with ⟨hst, w, ew, hR⟩ | ⟨h900, hcc, o, p, w, q, e1, e2, e3, e4⟩
    · have no : ¬ S.i 43 = c := fun z => by
        rcases hst with q | q
        · rw [no_900 hv hx q] at z
          exact h0 z.symm
        · exact q z
      rw [if_neg (show ¬ s2.i 10 = sg from fun z => no (is.mpr (by rw [← j2.2.1]; exact z)))] at hV2
      cases hV2
      have kw := kd_X0_aim N S y w ew
      obtain ⟨kp7, -, -, -, e22, -, -, -, -, -, -, e18⟩ := pj2_eq kw
      rw [hR]
      refine Or.inr ⟨m, _, g2, pop_env (v2.kd kw), tp_sub ht2 t9, (f2.mo (by omega)).tr pop_frb, k2.tr pop_tbk.1, d2.tr ⟨Int.le_refl _, fun _ _ => rfl⟩, CKX.of kp7 e22 e18, ?_, ?_, ?_, rfl, fun z => absurd z no, j2.2.2.2.2.2⟩
      · show (s.i 11).toInt ≤ (s2.i 11).toInt
        rw [j2.2.2.1]
        exact Int.le_refl _
      · show φ ≤ phI s2
        rw [p2]
        exact hp
      · show (s.i 17).toInt ≤ (s2.i 17).toInt
        rw [j2.1]
        exact Int.le_refl _
    · rw [if_pos (show s2.i 10 = sg from by rw [j2.2.1]; exact is.mp hcc)] at hV2
      obtain ⟨v5, b5, b⟩ := hf_bind hV2
      obtain ⟨v7, b7, b⟩ := hf_bind b
      obtain ⟨-, b⟩ := hf_ite b
      obtain ⟨v8, b8, b⟩ := hf_bind b
      cases b
      rw [en] at b8
      have nz : ¬ S.i 43 = 0 := fun z => h0 (hcc.symm.trans z)
      obtain ⟨v4, n1', n2', n3', n4', n5', n6', n7', n8', n9'⟩ := v2.adv hN nz e1 b5
      have t5 : (v5.i 17).toInt = (s.i 17).toInt + 1 := by
        rw [n3', t17_up (N := N) v2, j2.1]
      have p5 : phI v5 = phI s + 3 := by
        unfold phI
        rw [n5', t5, j2.2.2.2.1]
        omega
      obtain ⟨w1, w2, w3, w4, w5, w6⟩ := em_env v4 (by omega) b7
      obtain ⟨kq7, -, y11, -, -, -, -, y17, y19, -⟩ := qj2_eq w3
      obtain ⟨s6, hs6⟩ : ∃ z, z = RS.setA v7.2 66 t v7.1 := ⟨_, rfl⟩
      rw [← hs6] at b8
      have v6 : ENV d p.2 s6 := by rw [hs6]; exact setA_env (Or.inr (by omega)) w1
      have k6 : TBZ v7.2 s6 := by rw [hs6]; exact setA_tb0 (Or.inr (by omega))
      have f6 : FRB t v7.2 s6 := by rw [hs6]; exact setA_frb (Or.inr ⟨by omega, by omega, Nat.le_refl _⟩)
      have q6 : s6.a 66 t = v7.1 := by
        rw [hs6]
        show upd (v7.2.a 66) t v7.1 t = v7.1
        exact if_pos rfl
      have q64 : s6.a 64 t = K := by
        have r1 : s6.a 64 t = v7.2.a 64 t := by rw [hs6]; rfl
        rw [r1, ((FRB.of (t := t + 1) kq7) t (by omega)).1, ((FRB.of (t := t + 1) n1') t (by omega)).1, (f2 t (by omega)).1]
        exact hk
      have j6 : s6.i 17 = v7.2.i 17 ∧ s6.i 11 = v7.2.i 11 ∧ s6.i 20 = v7.2.i 20 ∧ s6.i 63 = v7.2.i 63 ∧ s6.a 22 = v7.2.a 22 ∧ s6.i 19 = v7.2.i 19 := by
        rw [hs6]
        exact ⟨rfl, rfl, rfl, rfl, rfl, rfl⟩
      clear hs6
      have t6 : tpI s6 = t := by
        have r1 : v7.2.i 63 = v5.i 63 := congrArg (fun v : QJT => v.1.2.2.2.2.2.2.2.2.2.2.2.2.2.2.2.2.1) kq7
        have r2 : v5.i 63 = s2.i 63 := congrArg (fun v : QJT => v.1.2.2.2.2.2.2.2.2.2.2.2.2.2.2.2.2.1) n1'
        show (s6.i 63).toInt = (t : Int)
        rw [j6.2.2.2.1, r1, r2]
        exact ht2
      obtain ⟨b8', t99⟩ := r_then t6 b8
      rw [b8'] at g2
      have ck1 : CKX S p.2 := CKX.of n2' n7' n8'
      have kw := kd_X0_add N p.2 o y w e2
      obtain ⟨kpw, -, -, -, e22, -, -, -, -, -, -, e18⟩ := pj2_eq kw
      have ck2 : CKX p.2 w.2 := CKX.of kpw e22 e18
      have p21 := pj_21 n2'
      have p44 : (S.i 44).toInt + 1 ≤ (p.2.i 44).toInt := by
        rw [hv.1.2.2.2.1.1, v4.1.2.2.2.1.1, ← j2.2.2.1]
        exact n4'
      have p6 : phI s6 = phI s + 2 := by
        have : phI s6 = phI v7.2 := by
          unfold phI
          rw [j6.1, j6.2.2.1]
        rw [this, w4, p5]
        omega
      have c20 : (v5.i 20).toInt = (s.i 20).toInt := by rw [n5', j2.2.2.2.1]
      rcases hE d w.2 (TH s6 t 2 K2) U m (t + 1) q (v6.kd kw).th (TH.tp t6 (by omega)) TH.fk TH.fs (show 3 ≤ phI s6 by omega) e3 g2 with ⟨x1, x2⟩ | ⟨m2, u, g3, xo, -, -⟩
      · exact Or.inl ⟨hL.2.2 n1 q.2 y (x + 1) R e4 x1, x2⟩
      · obtain ⟨o1, o2, o3, o4, o5, o6, o7, o8, o9⟩ := xo
        have u64 : u.a 64 t = K := by
          rw [(o3 t (by omega)).1, TH.fk0 (Nat.le_refl t)]
          exact q64
        have u65 : u.a 65 t = 2 := by
          rw [(o3 t (by omega)).2.1]
          exact TH.st
        have u66 : u.a 66 t = v7.1 := by
          rw [(o3 t (by omega)).2.2.1]
          exact q6
        have tu : tpI u = t := by
          rw [o2]
          omega
        have o6' : (s6.i 11).toInt + 1 ≤ (u.i 11).toInt := o6
        have o7' : phI s6 + 1 ≤ phI u := o7
        have o8' : (s6.i 17).toInt + 1 ≤ (u.i 17).toInt := o8
        have o9' : u.i 19 = s6.i 19 := o9
        have e17 : (s6.i 17).toInt = (s.i 17).toInt + 1 := by rw [j6.1, y17, t5]
        have e11 : (s.i 11).toInt + 1 ≤ (s6.i 11).toInt := by
          rw [j6.2.1, y11]
          rw [j2.2.2.1] at n4'
          exact n4'
        have hi := i11_hi hv
        have xx : (x + 1).toInt = x.toInt + 1 := ad1 hx0 (by omega)
        have d20 : (s.i 20).toInt ≤ (s6.i 20).toInt := by
          rw [j6.2.2.1, w6, c20]
          omega
        have o420 := o4.2.1
        have o420' : (s6.i 20).toInt ≤ (u.i 20).toInt := o420
        have f77 : FRB t v5 v7.2 := FRB.of kq7
        have f55 : FRB t s2 v5 := FRB.of n1'
        have sm : FRB t s u := (((((f2.mo (by omega)).tr f55).tr f77).tr f6).tr TH.frb).tr (o3.mo (by omega))
        have tb : TBZ s u := ((((k2.tr (TBZ.of n1')).tr (TBZ.of kq7)).tr k6).tr TH.tbk.1).tr o4.1
        have cd5 : CDK c0 s2 v5 := ⟨by rw [n5']; exact Int.le_refl _, fun j _ => by rw [n6']⟩
        have cd7 : CDK c0 v5 v7.2 := w2.2.wk (by omega)
        have cd6 : CDK c0 v7.2 s6 := ⟨by rw [j6.2.2.1]; exact Int.le_refl _, fun j _ => by rw [j6.2.2.2.2.1]⟩
        have cdT : CDK c0 s6 (TH s6 t 2 K2) := ⟨Int.le_refl _, fun _ _ => rfl⟩
        have cdu : CDK c0 (TH s6 t 2 K2) u := o4.2.wk (by show c0 ≤ (s6.i 20).toInt; omega)
        have cd : CDK c0 s u := ((((d2.tr cd5).tr cd7).tr cd6).tr cdT).tr cdu
        have v71 : c0 ≤ (u.a 66 t).toInt := by
          rw [u66, w5, c20]
          exact hcd
        rcases ih m2 t d y (x + 1) q.2 u U R φ c0 o1 tu u64 (Or.inr ⟨u65, v71⟩) (by omega) hφ hc0 (by omega) (by omega) (by omega) e4 g3 with z | ⟨m3, u3, y1, y2, y3, y4, y5, y6, y7, y8, y9, y10, y12, y13, y14⟩
        · exact Or.inl z
        · have r9 := ((ck2.tr o5).tr y7).r21
          rw [p21] at r9
          exact Or.inr ⟨m3, u3, y1, y2, y3, sm.tr y4, tb.tr y5, cd.tr y6, ((ck1.tr ck2).tr o5).tr y7, by omega, y9, by omega, y12, fun _ => ⟨by omega, by omega⟩, y14.trans (o9'.trans (j6.2.2.2.2.2.trans (y19.trans (n9'.trans j2.2.2.2.2.2))))⟩
