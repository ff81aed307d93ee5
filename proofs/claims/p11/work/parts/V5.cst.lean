/-! the class's reading: the first token -/
/-- what is asked of the token before -/
def LCW (s : CS) : Prop := (0 ≤ (s.i 41).toInt ∧ (s.i 41).toInt ≤ 900) ∧ (0 ≤ (s.i 42).toInt ∧ (s.i 42).toInt ≤ (s.i 41).toInt) ∧ (s.i 43 = 0 → (s.i 42).toInt = (s.i 41).toInt) ∧ (ALW (s.i 43) → ¬ AB s (s.i 42))
theorem w_adv51 {N : Nat} (hN : 1000 ≤ N) {s X : CS} {m : Nat} (hw : WDC s) (hl : LCW s) (tk : TKC s X) (x42 : (X.i 42).toInt = (s.i 42).toInt + m) (hi : (s.i 42).toInt + m ≤ (s.i 41).toInt) : ok (f_X9_advance_51 N X) (fun R => ADV s R.2) := by
  have x41 : X.i 41 = s.i 41 := tk.2 41 (by decide) (by decide) (by decide) (by decide)
  have l2 := hl.2.1
  have fin : ∀ (Y R : CS), TKC s Y → Y.i 42 = X.i 42 → Y.i 44 = X.i 42 → TOK9 Y R → ADV s R := fun Y R hY h42 h44 hR => by
    obtain ⟨r1, r2, r3, r4⟩ := hR
    have e44 : (R.i 44).toInt = (s.i 42).toInt + m := by rw [r3, h44, x42]
    have tR := hY.tr r1
    refine ⟨tR, r2, by omega, fun q1 q2 => ?_, fun q => ?_⟩
    · by_cases c : m = 0
      · exfalso
        have ab := r2.2.2.2.2.1.1 q2
        have e : R.i 44 = s.i 42 := Int32.toInt_inj.mp (by rw [e44, c]; omega)
        rw [e] at ab
        have nb := hl.2.2.2 q1
        unfold AB at ab nb
        rw [tR.by] at ab
        exact nb ab
      · omega
    · exfalso
      have z := hl.2.2.1 q
      have z2 := r2.2.1
      have z3 := r2.2.2.2.1 r4
      have r41 : R.i 41 = s.i 41 := tR.2 41 (by decide) (by decide) (by decide) (by decide)
      rw [r41] at z2
      omega
  unfold f_X9_advance_51
  refine ok_ite (fun c => ?_) (fun c => ok_some ?_)
  · have lt := lt_int c
    rw [x41] at lt
    have tkY : TKC s (CS.setI X 44 (X.i 42)) := tk.i 44 _ (by omega)
    have y41 : (CS.setI X 44 (X.i 42)).i 41 = s.i 41 := tkY.2 41 (by decide) (by decide) (by decide) (by decide)
    have y42 : (CS.setI X 44 (X.i 42)).i 42 = X.i 42 := ci_ne _ _ _ (by decide)
    have y44 : (CS.setI X 44 (X.i 42)).i 44 = X.i 42 := ci_at _ _ _
    generalize CS.setI X 44 (X.i 42) = Y at *
    have h9 : 0 ≤ (Y.i 41).toInt ∧ (Y.i 41).toInt ≤ 900 := by rw [y41]; exact hl.1
    have h0 : 0 ≤ (Y.i 42).toInt := by rw [y42]; omega
    have e44 : Y.i 44 = Y.i 42 := y44.trans y42.symm
    have hwY : WDC Y := by unfold WDC at *; rw [tkY.1.2.2.2.2.2.2.2.2.2.1]; exact hw
    refine ok_bind (q_by _) (fun p3 g3 => ok_bind (q_dg _) (fun p7 g7 => ?_))
    rw [g3.1] at g7
    rw [g3.2] at g7
    obtain ⟨d1, d2, d3⟩ := g7
    rw [d1]
    rw [← y42] at d2 d3
    refine ok_ite (fun _ => ok_bind (q_by _) (fun p12 g12 => ok_bind (q_lt _) (fun p16 g16 => ?_))) (fun c7 => ok_bind (q_takeNumber hN h9 h0 e44 (d2 c7)) (fun p hp => ok_some (fin Y p.2 tkY y42 y44 hp)))
    rw [g12.1] at g16
    rw [g12.2] at g16
    obtain ⟨b1, b2, b3⟩ := g16
    rw [b1]
    exact ok_ite (fun _ => ok_bind (q_takeSign h9 h0 (by rw [y42, y41]; omega) e44) (fun p hp => ok_some (fin Y p.2 tkY y42 y44 hp))) (fun c16 => ok_bind (q_takeRow hN hwY h9 h0 e44 (b2 c16)) (fun p hp => ok_some (fin Y p.2 tkY y42 y44 hp)))
  · have ge : (s.i 41).toInt ≤ (X.i 42).toInt := by
      have := le_int (Int32.not_lt.mp c)
      rw [x41] at this; exact this
    have tkY : TKC s (CS.setI (CS.setI X 44 (X.i 42)) 43 0) := (tk.i 44 _ (by omega)).i 43 _ (by omega)
    have y41 : (CS.setI (CS.setI X 44 (X.i 42)) 43 0).i 41 = s.i 41 := tkY.2 41 (by decide) (by decide) (by decide) (by decide)
    have y42 : (CS.setI (CS.setI X 44 (X.i 42)) 43 0).i 42 = X.i 42 := by rw [ci_ne _ _ _ (by decide), ci_ne _ _ _ (by decide)]
    have y43 : (CS.setI (CS.setI X 44 (X.i 42)) 43 0).i 43 = 0 := ci_at _ _ _
    have y44 : (CS.setI (CS.setI X 44 (X.i 42)) 43 0).i 44 = X.i 42 := by rw [ci_ne _ _ _ (by decide), ci_at]
    generalize CS.setI (CS.setI X 44 (X.i 42)) 43 0 = Y at *
    have nt : ∀ v : Int32, ¬ v = 0 → ¬ Y.i 43 = v := fun v hv q => hv (q.symm.trans y43)
    refine ⟨tkY, ⟨by rw [y41]; exact hl.1, ⟨by rw [y44]; omega, by rw [y44, y42]; omega, by rw [y42, y41]; omega⟩, fun _ => by rw [y42, y41]; omega, fun q => absurd y43 q, ⟨fun q => ?_, fun q => ?_⟩, fun q => ?_, fun q => q.elim (fun q => absurd q (nt 218 (by decide))) (fun q => absurd q (nt 219 (by decide))), fun q => absurd q (nt 2 (by decide)), fun q => absurd q (nt 1 (by decide))⟩, by rw [y44]; omega, fun _ q => ?_, fun _ => y43⟩
    · unfold ALN at q; rw [y43, z_t0] at q; omega
    · unfold ALW at q; rw [y43, z_t0] at q; omega
    · rw [y43, z_t0] at q; omega
    · unfold ALN at q; rw [y43, z_t0] at q; omega
theorem w_adv2 {N : Nat} (hN : 1000 ≤ N) {s : CS} (hw : WDC s) (hl : LCW s) : ∀ (n : Nat) (X : CS) (m : Nat) (x1 : Int32), TKC s X → (X.i 42).toInt = (s.i 42).toInt + m → (s.i 42).toInt + m ≤ (s.i 41).toInt → x1.toInt = (m : Int) → 900 - (m : Int) < n → ok (f_X9_advance_2 N n X x1) (fun R => ADV s R.2)
  | 0, X, m, x1, _, _, h, _, hn => by
    have := hl.1
    have := hl.2.1
    omega
  | n + 1, X, m, x1, tk, x42, hi, hx, hn => by
    show ok (b_X9_advance_2 N (f_X9_advance_2 N n) X x1) _
    unfold b_X9_advance_2
    have e9 : (900 : Int32).toInt = 900 := by decide
    have e1 : (1 : Int32).toInt = 1 := by decide
    have h9 := hl.1
    have l2 := hl.2.1
    refine ok_ite (fun _ => w_adv51 hN hw hl tk x42 hi) (fun c => ?_)
    have l9 : x1.toInt < 900 := by
      have := lt_int (Int32.not_le.mp c)
      rw [e9] at this; exact this
    have es : (x1 + 1).toInt = x1.toInt + 1 := by rw [toInt_add] <;> rw [e1] <;> omega
    have es2 : (X.i 42 + 1).toInt = (X.i 42).toInt + 1 := by rw [toInt_add] <;> rw [e1] <;> omega
    have go : ∀ b : Int32, BY X (X.i 42) = b → ¬ b = -1 → ok (f_X9_advance_2 N n (CS.setI X 42 ((X.i 42) + 1)) (x1 + 1)) (fun R => ADV s R.2) := fun b hb h1 => by
      have rg := BY.in (s := X) (x := X.i 42) (by rw [hb]; exact h1)
      have x41 : X.i 41 = s.i 41 := tk.2 41 (by decide) (by decide) (by decide) (by decide)
      rw [x41] at rg
      exact w_adv2 hN hw hl n _ (m + 1) (x1 + 1) (tk.i 42 _ (by omega)) (by rw [ci_at, es2, x42]; omega) (by omega) (by omega) (by omega)
    refine ok_bind (q_by _) (fun p g => ?_)
    rw [g.1]
    refine ok_ite (fun c1 => go 32 (by rw [← g.2]; exact c1) (by decide)) (fun _ => ok_bind (q_by _) (fun p2 g2 => ?_))
    rw [g2.1]
    exact ok_ite (fun c1 => go 10 (by rw [← g2.2]; exact c1) (by decide)) (fun _ => w_adv51 hN hw hl tk x42 hi)
theorem w_advance {N : Nat} (hN : 1000 ≤ N) {s : CS} (hw : WDC s) (hl : LCW s) : ok (f_X9_advance N s) (fun R => ADV s R.2) := by
  have h9 := hl.1
  have l2 := hl.2.1
  exact w_adv2 hN hw hl N s 0 0 (TKC.rf s) (by omega) (by omega) (by decide) (by omega)
/-- the first token -/
theorem q_start {N : Nat} (hN : 1000 ≤ N) {s : CS} (hw : WDC s) (x1 : Int32) (h1 : 0 ≤ x1.toInt ∧ x1.toInt ≤ 900) : ok (f_X9_start N s x1) (fun R => TKC (CS.setI s 41 x1) R.2 ∧ LC R.2) := by
  unfold f_X9_start
  have tk : TKC (CS.setI (CS.setI (CS.setI s 41 x1) 42 0) 43 6) (CS.setI (CS.setI s 41 x1) 42 0) := by
    refine ⟨⟨rfl, rfl, rfl, rfl, rfl, rfl, rfl, rfl, rfl, rfl, rfl⟩, fun j q1 q2 q3 q4 => ?_⟩
    rw [ci_ne _ _ _ q2]
  have e41 : (CS.setI (CS.setI (CS.setI s 41 x1) 42 0) 43 6).i 41 = x1 := by rw [ci_ne _ _ _ (by decide), ci_ne _ _ _ (by decide), ci_at]
  have e42 : (CS.setI (CS.setI (CS.setI s 41 x1) 42 0) 43 6).i 42 = 0 := by rw [ci_ne _ _ _ (by decide), ci_at]
  have e43 : (CS.setI (CS.setI (CS.setI s 41 x1) 42 0) 43 6).i 43 = 6 := ci_at _ _ _
  have f42 : (CS.setI (CS.setI s 41 x1) 42 0).i 42 = 0 := ci_at _ _ _
  have wd : WDC (CS.setI (CS.setI (CS.setI s 41 x1) 42 0) 43 6) := hw
  have tk2 : TKC (CS.setI s 41 x1) (CS.setI (CS.setI (CS.setI s 41 x1) 42 0) 43 6) := ((TKC.rf _).i 42 _ (by omega)).i 43 _ (by omega)
  generalize CS.setI (CS.setI (CS.setI s 41 x1) 42 0) 43 6 = Y at *
  have lw : LCW Y := ⟨by rw [e41]; exact h1, by rw [e42, e41, z_t0]; omega, fun q => by rw [e43] at q; exact absurd q (by decide), fun q => by
    unfold ALW at q
    rw [e43] at q
    exact absurd q (by decide)⟩
  refine ok_bind (w_adv2 hN wd lw N _ 0 0 tk (by rw [f42, e42]; omega) (by rw [e42, e41, z_t0]; omega) (by decide) (by omega)) (fun R hR => ok_some ⟨tk2.tr hR.1, hR.2.1⟩)
