/-! the class's tokens: advance, and what is asked of the token -/
theorem LC.sign {s T : CS} {t : Int32} {m : Int} (h9 : 0 ≤ (s.i 41).toInt ∧ (s.i 41).toInt ≤ 900) (h0 : 0 ≤ (s.i 42).toInt) (e44 : s.i 44 = s.i 42) (tk : TKC s T) (i43 : T.i 43 = t) (i44 : T.i 44 = s.i 44) (i42 : (T.i 42).toInt = (s.i 42).toInt + m) (hm : 1 ≤ m) (hi : (s.i 42).toInt + m ≤ (s.i 41).toInt) (ht : t.toInt = 6 ∨ (33 ≤ t.toInt ∧ t.toInt ≤ 125) ∨ (128 ≤ t.toInt ∧ t.toInt ≤ 135)) (h2 : 128 ≤ t.toInt → 2 ≤ m) : TOK9 s T := by
  have i41 : T.i 41 = s.i 41 := tk.2 41 (by decide) (by decide) (by decide) (by decide)
  have t0 : ¬ t = 0 := fun q => by rw [q, z_t0] at ht; omega
  have i44' : T.i 44 = s.i 42 := i44.trans e44
  have n1 : ∀ v : Int32, v.toInt < 6 ∨ 135 < v.toInt → ¬ T.i 43 = v := fun v hv q => by
    rw [i43] at q
    rw [q] at ht
    omega
  refine ⟨tk, ⟨by rw [i41]; exact h9, ⟨by rw [i44']; exact h0, by rw [i44', i42]; omega, by rw [i42, i41]; omega⟩, fun q => absurd (i43.symm.trans q) t0, fun _ => by rw [i44', i42]; omega, ⟨fun q => ?_, fun q => ?_⟩, fun q => ?_, fun q => q.elim (fun q => absurd q (n1 218 (by decide))) (fun q => absurd q (n1 219 (by decide))), fun q => absurd q (n1 2 (by decide)), fun q => absurd q (n1 1 (by decide))⟩, i44, fun q => t0 (i43.symm.trans q)⟩
  · unfold ALN at q; rw [i43] at q; omega
  · unfold ALW at q; rw [i43] at q; omega
  · rw [i43] at q
    rw [i44', i42]
    have := h2 (by omega)
    omega
theorem q_takeSign {N : Nat} {s : CS} (h9 : 0 ≤ (s.i 41).toInt ∧ (s.i 41).toInt ≤ 900) (h0 : 0 ≤ (s.i 42).toInt) (h1 : (s.i 42).toInt < (s.i 41).toInt) (e44 : s.i 44 = s.i 42) : ok (f_X9_takeSign N s) (fun R => TOK9 s R.2) := by
  unfold f_X9_takeSign
  have e1 : (1 : Int32).toInt = 1 := by decide
  have e2 : (2 : Int32).toInt = 2 := by decide
  have e6 : (6 : Int32).toInt = 6 := by decide
  have es1 : (s.i 42 + 1).toInt = (s.i 42).toInt + 1 := by rw [toInt_add] <;> rw [e1] <;> omega
  have es2 : (s.i 42 + 2).toInt = (s.i 42).toInt + 2 := by rw [toInt_add] <;> rw [e2] <;> omega
  refine ok_bind (q_by _) (fun p1 g1 => ok_bind (q_by _) (fun p5 g5 => ok_bind (q_longSign _ _) (fun p9 g9 => ?_)))
  rw [g1.1] at g5
  rw [g5.1] at g9
  obtain ⟨k1, k2⟩ := g9
  rw [k1]
  refine ok_ite (fun c => ?_) (fun c => ok_some ?_)
  · rw [c]
    have tk : TKC s (CS.setI (CS.setI s 43 6) 42 (s.i 42 + 1)) := ((TKC.rf s).i 43 6 (by omega)).i 42 _ (by omega)
    have t42 : (CS.setI (CS.setI s 43 6) 42 (s.i 42 + 1)).i 42 = s.i 42 + 1 := ci_at _ _ _
    have t43 : (CS.setI (CS.setI s 43 6) 42 (s.i 42 + 1)).i 43 = 6 := by rw [ci_ne _ _ _ (by decide), ci_at]
    have t44 : (CS.setI (CS.setI s 43 6) 42 (s.i 42 + 1)).i 44 = s.i 44 := by rw [ci_ne _ _ _ (by decide), ci_ne _ _ _ (by decide)]
    generalize CS.setI (CS.setI s 43 6) 42 (s.i 42 + 1) = Y at *
    refine ok_bind (q_isSign _) (fun p14 g14 => ?_)
    rw [g14.1]
    refine ok_ite (fun _ => ok_some ?_) (fun c14 => ok_some ?_)
    · exact LC.sign (m := 1) h9 h0 e44 tk t43 t44 (by rw [t42, es1]) (by omega) (by omega) (Or.inl e6) (fun q => by rw [e6] at q; omega)
    · have rg := g14.2 c14
      refine LC.sign (m := 1) h9 h0 e44 (tk.i 43 _ (by omega)) (ci_at _ _ _) (by rw [ci_ne _ _ _ (by decide)]; exact t44) (by rw [ci_ne _ _ _ (by decide), t42, es1]) (by omega) (by omega) (Or.inr (Or.inl rg)) (fun q => by omega)
  · have k3 := k2.resolve_left c
    have y1 : ¬ BY s (s.i 42 + 1) = -1 := fun q => k3.2 (by rw [g5.2]; exact q)
    have rg := BY.in y1
    refine LC.sign (m := 2) h9 h0 e44 (((TKC.rf s).i 43 _ (by omega)).i 42 _ (by omega)) (by rw [ci_ne _ _ _ (by decide), ci_at]) (by rw [ci_ne _ _ _ (by decide), ci_ne _ _ _ (by decide)]) (by rw [ci_at, es2]) (by omega) (by omega) (Or.inr (Or.inr k3.1)) (fun _ => by omega)
/-- one token on -/
def ADV (s R : CS) : Prop := TKC s R ∧ LC R ∧ (s.i 42).toInt ≤ (R.i 44).toInt ∧ (ALW (s.i 43) → ALN (R.i 43) → (s.i 42).toInt + 1 ≤ (R.i 44).toInt) ∧ (s.i 43 = 0 → R.i 43 = 0)
theorem q_adv51 {N : Nat} (hN : 1000 ≤ N) {s X : CS} {m : Nat} (hw : WDC s) (hl : LC s) (tk : TKC s X) (x42 : (X.i 42).toInt = (s.i 42).toInt + m) (hi : (s.i 42).toInt + m ≤ (s.i 41).toInt) : ok (f_X9_advance_51 N X) (fun R => ADV s R.2) := by
  have x41 : X.i 41 = s.i 41 := tk.2 41 (by decide) (by decide) (by decide) (by decide)
  have l2 := hl.2.1
  have fin : ∀ (Y R : CS), TKC s Y → Y.i 42 = X.i 42 → Y.i 44 = X.i 42 → TOK9 Y R → ADV s R := fun Y R hY h42 h44 hR => by
    obtain ⟨r1, r2, r3, r4⟩ := hR
    have e44 : (R.i 44).toInt = (s.i 42).toInt + m := by rw [r3, h44, x42]
    have tR := hY.tr r1
    refine ⟨tR, r2, by omega, fun q1 q2 => ?_, fun q => ?_⟩
    · by_cases c : m = 0
      · exfalso
        have ab := r2.2.2.2.2.1.1 q2
        have e : R.i 44 = s.i 42 := Int32.toInt_inj.mp (by rw [e44, c]; omega)
        rw [e] at ab
        have nb := hl.2.2.2.2.1.2 q1
        unfold AB at ab nb
        rw [tR.by] at ab
        exact nb ab
      · omega
    · exfalso
      have z := hl.2.2.1 q
      have z2 := r2.2.1
      have z3 := r2.2.2.2.1 r4
      have r41 : R.i 41 = s.i 41 := tR.2 41 (by decide) (by decide) (by decide) (by decide)
      rw [r41] at z2
      omega
  unfold f_X9_advance_51
  refine ok_ite (fun c => ?_) (fun c => ok_some ?_)
  · have lt := lt_int c
    rw [x41] at lt
    have tkY : TKC s (CS.setI X 44 (X.i 42)) := tk.i 44 _ (by omega)
    have y41 : (CS.setI X 44 (X.i 42)).i 41 = s.i 41 := tkY.2 41 (by decide) (by decide) (by decide) (by decide)
    have y42 : (CS.setI X 44 (X.i 42)).i 42 = X.i 42 := ci_ne _ _ _ (by decide)
    have y44 : (CS.setI X 44 (X.i 42)).i 44 = X.i 42 := ci_at _ _ _
    generalize CS.setI X 44 (X.i 42) = Y at *
    have h9 : 0 ≤ (Y.i 41).toInt ∧ (Y.i 41).toInt ≤ 900 := by rw [y41]; exact hl.1
    have h0 : 0 ≤ (Y.i 42).toInt := by rw [y42]; omega
    have e44 : Y.i 44 = Y.i 42 := y44.trans y42.symm
    have hwY : WDC Y := by unfold WDC at *; rw [tkY.1.2.2.2.2.2.2.2.2.2.1]; exact hw
    refine ok_bind (q_by _) (fun p3 g3 => ok_bind (q_dg _) (fun p7 g7 => ?_))
    rw [g3.1] at g7
    rw [g3.2] at g7
    obtain ⟨d1, d2, d3⟩ := g7
    rw [d1]
    rw [← y42] at d2 d3
    refine ok_ite (fun _ => ok_bind (q_by _) (fun p12 g12 => ok_bind (q_lt _) (fun p16 g16 => ?_))) (fun c7 => ok_bind (q_takeNumber hN h9 h0 e44 (d2 c7)) (fun p hp => ok_some (fin Y p.2 tkY y42 y44 hp)))
    rw [g12.1] at g16
    rw [g12.2] at g16
    obtain ⟨b1, b2, b3⟩ := g16
    rw [b1]
    exact ok_ite (fun _ => ok_bind (q_takeSign h9 h0 (by rw [y42, y41]; omega) e44) (fun p hp => ok_some (fin Y p.2 tkY y42 y44 hp))) (fun c16 => ok_bind (q_takeRow hN hwY h9 h0 e44 (b2 c16)) (fun p hp => ok_some (fin Y p.2 tkY y42 y44 hp)))
  · have ge : (s.i 41).toInt ≤ (X.i 42).toInt := by
      have := le_int (Int32.not_lt.mp c)
      rw [x41] at this; exact this
    have tkY : TKC s (CS.setI (CS.setI X 44 (X.i 42)) 43 0) := (tk.i 44 _ (by omega)).i 43 _ (by omega)
    have y41 : (CS.setI (CS.setI X 44 (X.i 42)) 43 0).i 41 = s.i 41 := tkY.2 41 (by decide) (by decide) (by decide) (by decide)
    have y42 : (CS.setI (CS.setI X 44 (X.i 42)) 43 0).i 42 = X.i 42 := by rw [ci_ne _ _ _ (by decide), ci_ne _ _ _ (by decide)]
    have y43 : (CS.setI (CS.setI X 44 (X.i 42)) 43 0).i 43 = 0 := ci_at _ _ _
    have y44 : (CS.setI (CS.setI X 44 (X.i 42)) 43 0).i 44 = X.i 42 := by rw [ci_ne _ _ _ (by decide), ci_at]
    generalize CS.setI (CS.setI X 44 (X.i 42)) 43 0 = Y at *
    have nt : ∀ v : Int32, ¬ v = 0 → ¬ Y.i 43 = v := fun v hv q => hv (q.symm.trans y43)
    refine ⟨tkY, ⟨by rw [y41]; exact hl.1, ⟨by rw [y44]; omega, by rw [y44, y42]; omega, by rw [y42, y41]; omega⟩, fun _ => by rw [y42, y41]; omega, fun q => absurd y43 q, ⟨fun q => ?_, fun q => ?_⟩, fun q => ?_, fun q => q.elim (fun q => absurd q (nt 218 (by decide))) (fun q => absurd q (nt 219 (by decide))), fun q => absurd q (nt 2 (by decide)), fun q => absurd q (nt 1 (by decide))⟩, by rw [y44]; omega, fun _ q => ?_, fun _ => y43⟩
    · unfold ALN at q; rw [y43, z_t0] at q; omega
    · unfold ALW at q; rw [y43, z_t0] at q; omega
    · rw [y43, z_t0] at q; omega
    · unfold ALN at q; rw [y43, z_t0] at q; omega
theorem q_adv2 {N : Nat} (hN : 1000 ≤ N) {s : CS} (hw : WDC s) (hl : LC s) : ∀ (n : Nat) (X : CS) (m : Nat) (x1 : Int32), TKC s X → (X.i 42).toInt = (s.i 42).toInt + m → (s.i 42).toInt + m ≤ (s.i 41).toInt → x1.toInt = (m : Int) → 900 - (m : Int) < n → ok (f_X9_advance_2 N n X x1) (fun R => ADV s R.2)
  | 0, X, m, x1, _, _, h, _, hn => by
    have := hl.1
    have := hl.2.1
    omega
  | n + 1, X, m, x1, tk, x42, hi, hx, hn => by
    show ok (b_X9_advance_2 N (f_X9_advance_2 N n) X x1) _
    unfold b_X9_advance_2
    have e9 : (900 : Int32).toInt = 900 := by decide
    have e1 : (1 : Int32).toInt = 1 := by decide
    have h9 := hl.1
    have l2 := hl.2.1
    refine ok_ite (fun _ => q_adv51 hN hw hl tk x42 hi) (fun c => ?_)
    have l9 : x1.toInt < 900 := by
      have := lt_int (Int32.not_le.mp c)
      rw [e9] at this; exact this
    have es : (x1 + 1).toInt = x1.toInt + 1 := by rw [toInt_add] <;> rw [e1] <;> omega
    have es2 : (X.i 42 + 1).toInt = (X.i 42).toInt + 1 := by rw [toInt_add] <;> rw [e1] <;> omega
    have go : ∀ b : Int32, BY X (X.i 42) = b → ¬ b = -1 → ok (f_X9_advance_2 N n (CS.setI X 42 ((X.i 42) + 1)) (x1 + 1)) (fun R => ADV s R.2) := fun b hb h1 => by
      have rg := BY.in (s := X) (x := X.i 42) (by rw [hb]; exact h1)
      have x41 : X.i 41 = s.i 41 := tk.2 41 (by decide) (by decide) (by decide) (by decide)
      rw [x41] at rg
      exact q_adv2 hN hw hl n _ (m + 1) (x1 + 1) (tk.i 42 _ (by omega)) (by rw [ci_at, es2, x42]; omega) (by omega) (by omega) (by omega)
    refine ok_bind (q_by _) (fun p g => ?_)
    rw [g.1]
    refine ok_ite (fun c1 => go 32 (by rw [← g.2]; exact c1) (by decide)) (fun _ => ok_bind (q_by _) (fun p2 g2 => ?_))
    rw [g2.1]
    exact ok_ite (fun c1 => go 10 (by rw [← g2.2]; exact c1) (by decide)) (fun _ => q_adv51 hN hw hl tk x42 hi)
theorem q_advance {N : Nat} (hN : 1000 ≤ N) {s : CS} (hw : WDC s) (hl : LC s) : ok (f_X9_advance N s) (fun R => ADV s R.2) := by
  have h9 := hl.1
  have l2 := hl.2.1
  exact q_adv2 hN hw hl N s 0 0 (TKC.rf s) (by omega) (by omega) (by decide) (by omega)
/-- a fault is told -/
def FLD (s R : CS) : Prop := (R.hs = s.hs ∧ R.L = s.L ∧ R.k = s.k ∧ R.o = s.o ∧ R.ol = s.ol ∧ R.ot = s.ot ∧ R.oa = s.oa ∧ R.r = s.r ∧ R.w = s.w ∧ R.b = s.b ∧ R.a = s.a ∧ R.l = s.l) ∧ (∀ j : Nat, j ≠ 32 → j ≠ 33 → j ≠ 42 → j ≠ 43 → R.i j = s.i j) ∧ LC R ∧ ¬ R.i 32 = 0 ∧ R.i 43 = 0
theorem q_fail {N : Nat} {s : CS} (hl : LC s) (hf : ¬ s.i 32 = 0 → s.i 43 = 0) (x y : Int32) (hx : ¬ x = 0) : ok (f_X1_fail N s x y) (fun R => FLD s R.2) := by
  unfold f_X1_fail f_X9_stop
  refine ok_ite (fun c => ok_some ?_) (fun c => ok_some ⟨⟨rfl, rfl, rfl, rfl, rfl, rfl, rfl, rfl, rfl, rfl, rfl, rfl⟩, fun _ _ _ _ _ => rfl, hl, c, hf c⟩)
  show FLD s (CS.setI (CS.setI (CS.setI (CS.setI s 32 x) 33 y) 42 ((CS.setI (CS.setI s 32 x) 33 y).i 41)) 43 0)
  have t41 : (CS.setI (CS.setI s 32 x) 33 y).i 41 = s.i 41 := by rw [ci_ne _ _ _ (by decide), ci_ne _ _ _ (by decide)]
  rw [t41]
  have ti : ∀ j : Nat, j ≠ 32 → j ≠ 33 → j ≠ 42 → j ≠ 43 → (CS.setI (CS.setI (CS.setI (CS.setI s 32 x) 33 y) 42 (s.i 41)) 43 0).i j = s.i j := fun j q1 q2 q3 q4 => by rw [ci_ne _ _ _ q4, ci_ne _ _ _ q3, ci_ne _ _ _ q2, ci_ne _ _ _ q1]
  have t32 : (CS.setI (CS.setI (CS.setI (CS.setI s 32 x) 33 y) 42 (s.i 41)) 43 0).i 32 = x := by rw [ci_ne _ _ _ (by decide), ci_ne _ _ _ (by decide), ci_ne _ _ _ (by decide), ci_at]
  have t42 : (CS.setI (CS.setI (CS.setI (CS.setI s 32 x) 33 y) 42 (s.i 41)) 43 0).i 42 = s.i 41 := by rw [ci_ne _ _ _ (by decide), ci_at]
  have t43 : (CS.setI (CS.setI (CS.setI (CS.setI s 32 x) 33 y) 42 (s.i 41)) 43 0).i 43 = 0 := ci_at _ _ _
  have q41 := ti 41 (by decide) (by decide) (by decide) (by decide)
  have q44 := ti 44 (by decide) (by decide) (by decide) (by decide)
  have base : (CS.setI (CS.setI (CS.setI (CS.setI s 32 x) 33 y) 42 (s.i 41)) 43 0).hs = s.hs ∧ (CS.setI (CS.setI (CS.setI (CS.setI s 32 x) 33 y) 42 (s.i 41)) 43 0).L = s.L ∧ (CS.setI (CS.setI (CS.setI (CS.setI s 32 x) 33 y) 42 (s.i 41)) 43 0).k = s.k ∧ (CS.setI (CS.setI (CS.setI (CS.setI s 32 x) 33 y) 42 (s.i 41)) 43 0).o = s.o ∧ (CS.setI (CS.setI (CS.setI (CS.setI s 32 x) 33 y) 42 (s.i 41)) 43 0).ol = s.ol ∧ (CS.setI (CS.setI (CS.setI (CS.setI s 32 x) 33 y) 42 (s.i 41)) 43 0).ot = s.ot ∧ (CS.setI (CS.setI (CS.setI (CS.setI s 32 x) 33 y) 42 (s.i 41)) 43 0).oa = s.oa ∧ (CS.setI (CS.setI (CS.setI (CS.setI s 32 x) 33 y) 42 (s.i 41)) 43 0).r = s.r ∧ (CS.setI (CS.setI (CS.setI (CS.setI s 32 x) 33 y) 42 (s.i 41)) 43 0).w = s.w ∧ (CS.setI (CS.setI (CS.setI (CS.setI s 32 x) 33 y) 42 (s.i 41)) 43 0).b = s.b ∧ (CS.setI (CS.setI (CS.setI (CS.setI s 32 x) 33 y) 42 (s.i 41)) 43 0).a = s.a ∧ (CS.setI (CS.setI (CS.setI (CS.setI s 32 x) 33 y) 42 (s.i 41)) 43 0).l = s.l := ⟨rfl, rfl, rfl, rfl, rfl, rfl, rfl, rfl, rfl, rfl, rfl, rfl⟩
  generalize CS.setI (CS.setI (CS.setI (CS.setI s 32 x) 33 y) 42 (s.i 41)) 43 0 = Y at *
  have h9 := hl.1
  have l2 := hl.2.1
  have nt : ∀ v : Int32, ¬ v = 0 → ¬ Y.i 43 = v := fun v hv q => hv (q.symm.trans t43)
  refine ⟨base, ti, ⟨by rw [q41]; exact h9, ⟨by rw [q44]; omega, by rw [q44, t42]; omega, by rw [t42, q41]; omega⟩, fun _ => by rw [t42, q41], fun q => absurd t43 q, ⟨fun q => ?_, fun q => ?_⟩, fun q => ?_, fun q => q.elim (fun q => absurd q (nt 218 (by decide))) (fun q => absurd q (nt 219 (by decide))), fun q => absurd q (nt 2 (by decide)), fun q => absurd q (nt 1 (by decide))⟩, by rw [t32]; exact hx, t43⟩
  · unfold ALN at q; rw [t43, z_t0] at q; omega
  · unfold ALW at q; rw [t43, z_t0] at q; omega
  · rw [t43, z_t0] at q; omega
