section
/-! the class's reading: the recursion -/
theorem EC.f1 {N : Nat} {H : HB} {E1 : CS → Option (Unit × CS)} {E2 : CS → Option (Int32 × CS)} : EC H 2 (f_X1_factor N E1 E2) := by
  intro x y c X P lim s hx hy h hk
  have nf : ¬ s.i 32 = 0 := fun q => by
    have := hk q
    have := (h.2 q).2.2.2.2.1.2
    omega
  have e := h.1.2.2.2.2.1 nf
  unfold f_X1_factor
  rw [e, if_neg (by decide), if_neg (by decide), if_neg (by decide), if_neg (by decide), if_neg (by decide)]
  exact ok_bind (q_misp h.1) (fun p hp => ok_some ⟨JJ.flt h.1 hp, fun z => absurd z hp.2.2.2.1⟩)
theorem ABC.v2 {H : HB} {B : CS → Int32 → Option (Unit × CS)} : ABC H 2 B := by
  intro x y c X P lim s t hx hy h nf h43 hk hg hw ht
  have := (h.2 nf).2.2.2.2.1.2
  omega
theorem EC2.f2 {N : Nat} {H : HB} (hN : 1000 ≤ N) {E1 : CS → Option (Unit × CS)} {E2 : CS → Option (Int32 × CS)} (hE : EC H 2 E1) : EC2 H 3 (f_X1_one N E1 E2) := by
  intro x y c X P lim s hx hy h hk
  have nf : ¬ s.i 32 = 0 := fun q => by
    have := hk q
    have := (h.2 q).2.2.2.2.1.2
    omega
  have e := h.1.2.2.2.2.1 nf
  unfold f_X1_one
  rw [e, if_neg (by decide), if_neg (by decide), if_neg (by decide), if_neg (by decide)]
  exact ok_bind (q_comparison (E2 := E2) hN hE x y c X P lim s hx (by omega) h (fun q => absurd q nf)) (fun p hp => ok_some ⟨hp, Or.inl rfl⟩)
theorem q_EE {N : Nat} (hN : 10000000000 ≤ N) (h1 : Nat) : ∀ (m : Nat) (b : (Nat → Option Nat) × (Nat → Prop)), EC (h1, b) ((m : Int) + 3) (fEE N (m + 2)).1 ∧ EC2 (h1, b) ((m : Int) + 3) (fEE N (m + 2)).2
  | 0, b => by
    have e1 : EC (h1, b) 2 (fEE N 1).1 := EC.f1
    refine ⟨?_, EC2.f2 (by omega) e1⟩
    exact q_factor (k := 2) (by omega) e1 (q_choice (k := 2) hN e1 ABC.v2) (by omega)
  | m + 1, b => by
    have ih := q_EE hN h1 m
    have ab := q_armBlock (H := (h1, b)) hN (fun b' => (ih b').1) (fun b' => (ih b').2)
    rw [show ((m + 1 : Nat) : Int) + 3 = ((m : Int) + 3) + 1 by omega]
    exact ⟨q_factor (by omega) (ih b).1 (q_choice hN (ih b).1 ab) (by omega), q_one (by omega) (ih b).1 (ih b).2 (by omega)⟩
/-- at the top -/
theorem q_top23 {N : Nat} (hN : 10000000000 ≤ N) (h1 : Nat) (b : (Nat → Option Nat) × (Nat → Prop)) : EC (h1, b) 24 (fEE N 23).1 ∧ EC2 (h1, b) 24 (fEE N 23).2 := q_EE hN h1 21 b
end
section
/-! the class's reading: the first token -/
/-- what is asked of the token before -/
def LCW (s : CS) : Prop := (0 ≤ (s.i 41).toInt ∧ (s.i 41).toInt ≤ 900) ∧ (0 ≤ (s.i 42).toInt ∧ (s.i 42).toInt ≤ (s.i 41).toInt) ∧ (s.i 43 = 0 → (s.i 42).toInt = (s.i 41).toInt) ∧ (ALW (s.i 43) → ¬ AB s (s.i 42))
theorem w_adv51 {N : Nat} (hN : 1000 ≤ N) {s X : CS} {m : Nat} (hw : WDC s) (hl : LCW s) (tk : TKC s X) (x42 : (X.i 42).toInt = (s.i 42).toInt + m) (hi : (s.i 42).toInt + m ≤ (s.i 41).toInt) : ok (f_X9_advance_51 N X) (fun R => ADV s R.2) := by
  have x41 : X.i 41 = s.i 41 := tk.2 41 (by decide) (by decide) (by decide) (by decide)
  have l2 := hl.2.1
  have fin : ∀ (Y R : CS), TKC s Y → Y.i 42 = X.i 42 → Y.i 44 = X.i 42 → TOK9 Y R → ADV s R := fun Y R hY h42 h44 hR => by
    obtain ⟨r1, r2, r3, r4⟩ := hR
    have e44 : (R.i 44).toInt = (s.i 42).toInt + m := by rw [r3, h44, x42]
    have tR := hY.tr r1
    refine ⟨tR, r2, by omega, fun q1 q2 => ?_, fun q => ?_⟩
    · by_cases c : m = 0
      · exfalso
        have ab := r2.2.2.2.2.1.1 q2
        have e : R.i 44 = s.i 42 := Int32.toInt_inj.mp (by rw [e44, c]; omega)
        rw [e] at ab
        have nb := hl.2.2.2 q1
        unfold AB at ab nb
        rw [tR.by] at ab
        exact nb ab
      · omega
    · exfalso
      have z := hl.2.2.1 q
      have z2 := r2.2.1
      have z3 := r2.2.2.2.1 r4
      have r41 : R.i 41 = s.i 41 := tR.2 41 (by decide) (by decide) (by decide) (by decide)
      rw [r41] at z2
      omega
  unfold f_X9_advance_51
  refine ok_ite (fun c => ?_) (fun c => ok_some ?_)
  · have lt := lt_int c
    rw [x41] at lt
    have tkY : TKC s (CS.setI X 44 (X.i 42)) := tk.i 44 _ (by omega)
    have y41 : (CS.setI X 44 (X.i 42)).i 41 = s.i 41 := tkY.2 41 (by decide) (by decide) (by decide) (by decide)
    have y42 : (CS.setI X 44 (X.i 42)).i 42 = X.i 42 := ci_ne _ _ _ (by decide)
    have y44 : (CS.setI X 44 (X.i 42)).i 44 = X.i 42 := ci_at _ _ _
    generalize CS.setI X 44 (X.i 42) = Y at *
    have h9 : 0 ≤ (Y.i 41).toInt ∧ (Y.i 41).toInt ≤ 900 := by rw [y41]; exact hl.1
    have h0 : 0 ≤ (Y.i 42).toInt := by rw [y42]; omega
    have e44 : Y.i 44 = Y.i 42 := y44.trans y42.symm
    have hwY : WDC Y := by unfold WDC at *; rw [tkY.1.2.2.2.2.2.2.2.2.2.1]; exact hw
    refine ok_bind (q_by _) (fun p3 g3 => ok_bind (q_dg _) (fun p7 g7 => ?_))
    rw [g3.1] at g7
    rw [g3.2] at g7
    obtain ⟨d1, d2, d3⟩ := g7
    rw [d1]
    rw [← y42] at d2 d3
    refine ok_ite (fun _ => ok_bind (q_by _) (fun p12 g12 => ok_bind (q_lt _) (fun p16 g16 => ?_))) (fun c7 => ok_bind (q_takeNumber hN h9 h0 e44 (d2 c7)) (fun p hp => ok_some (fin Y p.2 tkY y42 y44 hp)))
    rw [g12.1] at g16
    rw [g12.2] at g16
    obtain ⟨b1, b2, b3⟩ := g16
    rw [b1]
    exact ok_ite (fun _ => ok_bind (q_takeSign h9 h0 (by rw [y42, y41]; omega) e44) (fun p hp => ok_some (fin Y p.2 tkY y42 y44 hp))) (fun c16 => ok_bind (q_takeRow hN hwY h9 h0 e44 (b2 c16)) (fun p hp => ok_some (fin Y p.2 tkY y42 y44 hp)))
  · have ge : (s.i 41).toInt ≤ (X.i 42).toInt := by
      have := le_int (Int32.not_lt.mp c)
      rw [x41] at this; exact this
    have tkY : TKC s (CS.setI (CS.setI X 44 (X.i 42)) 43 0) := (tk.i 44 _ (by omega)).i 43 _ (by omega)
    have y41 : (CS.setI (CS.setI X 44 (X.i 42)) 43 0).i 41 = s.i 41 := tkY.2 41 (by decide) (by decide) (by decide) (by decide)
    have y42 : (CS.setI (CS.setI X 44 (X.i 42)) 43 0).i 42 = X.i 42 := by rw [ci_ne _ _ _ (by decide), ci_ne _ _ _ (by decide)]
    have y43 : (CS.setI (CS.setI X 44 (X.i 42)) 43 0).i 43 = 0 := ci_at _ _ _
    have y44 : (CS.setI (CS.setI X 44 (X.i 42)) 43 0).i 44 = X.i 42 := by rw [ci_ne _ _ _ (by decide), ci_at]
    generalize CS.setI (CS.setI X 44 (X.i 42)) 43 0 = Y at *
    have nt : ∀ v : Int32, ¬ v = 0 → ¬ Y.i 43 = v := fun v hv q => hv (q.symm.trans y43)
    refine ⟨tkY, ⟨by rw [y41]; exact hl.1, ⟨by rw [y44]; omega, by rw [y44, y42]; omega, by rw [y42, y41]; omega⟩, fun _ => by rw [y42, y41]; omega, fun q => absurd y43 q, ⟨fun q => ?_, fun q => ?_⟩, fun q => ?_, fun q => q.elim (fun q => absurd q (nt 218 (by decide))) (fun q => absurd q (nt 219 (by decide))), fun q => absurd q (nt 2 (by decide)), fun q => absurd q (nt 1 (by decide))⟩, by rw [y44]; omega, fun _ q => ?_, fun _ => y43⟩
    · unfold ALN at q; rw [y43, z_t0] at q; omega
    · unfold ALW at q; rw [y43, z_t0] at q; omega
    · rw [y43, z_t0] at q; omega
    · unfold ALN at q; rw [y43, z_t0] at q; omega
theorem w_adv2 {N : Nat} (hN : 1000 ≤ N) {s : CS} (hw : WDC s) (hl : LCW s) : ∀ (n : Nat) (X : CS) (m : Nat) (x1 : Int32), TKC s X → (X.i 42).toInt = (s.i 42).toInt + m → (s.i 42).toInt + m ≤ (s.i 41).toInt → x1.toInt = (m : Int) → 900 - (m : Int) < n → ok (f_X9_advance_2 N n X x1) (fun R => ADV s R.2)
  | 0, X, m, x1, _, _, h, _, hn => by
    have := hl.1
    have := hl.2.1
    omega
  | n + 1, X, m, x1, tk, x42, hi, hx, hn => by
    show ok (b_X9_advance_2 N (f_X9_advance_2 N n) X x1) _
    unfold b_X9_advance_2
    have e9 : (900 : Int32).toInt = 900 := by decide
    have e1 : (1 : Int32).toInt = 1 := by decide
    have h9 := hl.1
    have l2 := hl.2.1
    refine ok_ite (fun _ => w_adv51 hN hw hl tk x42 hi) (fun c => ?_)
    have l9 : x1.toInt < 900 := by
      have := lt_int (Int32.not_le.mp c)
      rw [e9] at this; exact this
    have es : (x1 + 1).toInt = x1.toInt + 1 := by rw [toInt_add] <;> rw [e1] <;> omega
    have es2 : (X.i 42 + 1).toInt = (X.i 42).toInt + 1 := by rw [toInt_add] <;> rw [e1] <;> omega
    have go : ∀ b : Int32, BY X (X.i 42) = b → ¬ b = -1 → ok (f_X9_advance_2 N n (CS.setI X 42 ((X.i 42) + 1)) (x1 + 1)) (fun R => ADV s R.2) := fun b hb h1 => by
      have rg := BY.in (s := X) (x := X.i 42) (by rw [hb]; exact h1)
      have x41 : X.i 41 = s.i 41 := tk.2 41 (by decide) (by decide) (by decide) (by decide)
      rw [x41] at rg
      exact w_adv2 hN hw hl n _ (m + 1) (x1 + 1) (tk.i 42 _ (by omega)) (by rw [ci_at, es2, x42]; omega) (by omega) (by omega) (by omega)
    refine ok_bind (q_by _) (fun p g => ?_)
    rw [g.1]
    refine ok_ite (fun c1 => go 32 (by rw [← g.2]; exact c1) (by decide)) (fun _ => ok_bind (q_by _) (fun p2 g2 => ?_))
    rw [g2.1]
    exact ok_ite (fun c1 => go 10 (by rw [← g2.2]; exact c1) (by decide)) (fun _ => w_adv51 hN hw hl tk x42 hi)
theorem w_advance {N : Nat} (hN : 1000 ≤ N) {s : CS} (hw : WDC s) (hl : LCW s) : ok (f_X9_advance N s) (fun R => ADV s R.2) := by
  have h9 := hl.1
  have l2 := hl.2.1
  exact w_adv2 hN hw hl N s 0 0 (TKC.rf s) (by omega) (by omega) (by decide) (by omega)
/-- the first token -/
theorem q_start {N : Nat} (hN : 1000 ≤ N) {s : CS} (hw : WDC s) (x1 : Int32) (h1 : 0 ≤ x1.toInt ∧ x1.toInt ≤ 900) : ok (f_X9_start N s x1) (fun R => TKC (CS.setI s 41 x1) R.2 ∧ LC R.2) := by
  unfold f_X9_start
  have tk : TKC (CS.setI (CS.setI (CS.setI s 41 x1) 42 0) 43 6) (CS.setI (CS.setI s 41 x1) 42 0) := by
    refine ⟨⟨rfl, rfl, rfl, rfl, rfl, rfl, rfl, rfl, rfl, rfl, rfl⟩, fun j q1 q2 q3 q4 => ?_⟩
    rw [ci_ne _ _ _ q2]
  have e41 : (CS.setI (CS.setI (CS.setI s 41 x1) 42 0) 43 6).i 41 = x1 := by rw [ci_ne _ _ _ (by decide), ci_ne _ _ _ (by decide), ci_at]
  have e42 : (CS.setI (CS.setI (CS.setI s 41 x1) 42 0) 43 6).i 42 = 0 := by rw [ci_ne _ _ _ (by decide), ci_at]
  have e43 : (CS.setI (CS.setI (CS.setI s 41 x1) 42 0) 43 6).i 43 = 6 := ci_at _ _ _
  have f42 : (CS.setI (CS.setI s 41 x1) 42 0).i 42 = 0 := ci_at _ _ _
  have wd : WDC (CS.setI (CS.setI (CS.setI s 41 x1) 42 0) 43 6) := hw
  have tk2 : TKC (CS.setI s 41 x1) (CS.setI (CS.setI (CS.setI s 41 x1) 42 0) 43 6) := ((TKC.rf _).i 42 _ (by omega)).i 43 _ (by omega)
  generalize CS.setI (CS.setI (CS.setI s 41 x1) 42 0) 43 6 = Y at *
  have lw : LCW Y := ⟨by rw [e41]; exact h1, by rw [e42, e41, z_t0]; omega, fun q => by rw [e43] at q; exact absurd q (by decide), fun q => by
    unfold ALW at q
    rw [e43] at q
    exact absurd q (by decide)⟩
  refine ok_bind (w_adv2 hN wd lw N _ 0 0 tk (by rw [f42, e42]; omega) (by rw [e42, e41, z_t0]; omega) (by decide) (by omega)) (fun R hR => ok_some ⟨tk2.tr hR.1, hR.2.1⟩)
end
section
/-! the class: what stands between the calls; a reading begins -/
def CIV (h : Nat) (s : CS) : Prop := REFS s ∧ ROOM h s ∧ WDC s ∧ (∀ i a : Nat, i < 400 → s.r 51 i = some a → (bo (s.o a 5) ∧ bo (s.o a 6) ∧ bo (s.o a 7) ∧ bo (s.o a 8)) ∧ (0 ≤ (s.o a 3).toInt ∧ (s.o a 3).toInt ≤ 128)) ∧ (bo (s.i 14) ∧ (s.i 13).toInt ≤ 12) ∧ (0 ≤ (s.i 5).toInt ∧ (s.i 5).toInt ≤ 900) ∧ (¬ s.i 7 = 0 → ∃ D, WTC s D)
/-- the heap's side is the same -/
def HSM (s R : CS) : Prop := (R.hs = s.hs ∧ R.L = s.L ∧ R.k = s.k ∧ R.o = s.o ∧ R.ol = s.ol ∧ R.ot = s.ot ∧ R.r = s.r ∧ R.w = s.w) ∧ R.b 40 = s.b 40
theorem HSM.tr {s R T : CS} (h : HSM s R) (g : HSM R T) : HSM s T := by
  obtain ⟨⟨a1, a2, a3, a4, a5, a6, a7, a8⟩, a9⟩ := h
  obtain ⟨⟨b1, b2, b3, b4, b5, b6, b7, b8⟩, b9⟩ := g
  exact ⟨⟨b1.trans a1, b2.trans a2, b3.trans a3, b4.trans a4, b5.trans a5, b6.trans a6, b7.trans a7, b8.trans a8⟩, b9.trans a9⟩
theorem HSM.i (s : CS) (k : Nat) (v : Int32) : HSM s (CS.setI s k v) := ⟨⟨rfl, rfl, rfl, rfl, rfl, rfl, rfl, rfl⟩, rfl⟩
theorem HSM.a (s : CS) (k n : Nat) (v : Int32) : HSM s (CS.setA s k n v) := ⟨⟨rfl, rfl, rfl, rfl, rfl, rfl, rfl, rfl⟩, rfl⟩
theorem HSM.pa (s : CS) (k : Nat) (f : Nat → Int32) : HSM s (CS.putA s k f) := ⟨⟨rfl, rfl, rfl, rfl, rfl, rfl, rfl, rfl⟩, rfl⟩
theorem HSM.b (s : CS) (n : Nat) (v : Int64) : HSM s (CS.setB s 47 n v) := ⟨⟨rfl, rfl, rfl, rfl, rfl, rfl, rfl, rfl⟩, rfl⟩
theorem HSM.rf (s : CS) : HSM s s := ⟨⟨rfl, rfl, rfl, rfl, rfl, rfl, rfl, rfl⟩, rfl⟩
theorem HSM.refs {s R : CS} (h : HSM s R) (hr : REFS s) : REFS R := by
  obtain ⟨⟨a1, a2, a3, a4, a5, a6, a7, a8⟩, a9⟩ := h
  unfold REFS inP oK at *; rw [a1, a2, a3, a6, a7, a8]; exact hr
theorem HSM.room {s R : CS} (h : HSM s R) {k : Nat} (hr : ROOM k s) : ROOM k R := by
  obtain ⟨⟨a1, a2, a3, a4, a5, a6, a7, a8⟩, a9⟩ := h
  unfold ROOM at *; rw [a1, a7]; exact hr
theorem HSM.wd {s R : CS} (h : HSM s R) (hr : WDC s) : WDC R := by
  unfold WDC at *; rw [h.2]; exact hr
/-- before the first token, with so many names told -/
def PZ (s R : CS) (n : Int) : Prop := HSM s R ∧ (∀ j : Nat, ¬ (20 ≤ j ∧ j ≤ 27) → j ≠ 50 → R.i j = s.i j) ∧ (R.i 20 = 0 ∧ R.i 21 = 0 ∧ R.i 22 = 0 ∧ R.i 27 = 0) ∧ (R.i 50).toInt = n ∧ ∀ j : Nat, (j : Int) < n → R.a 49 j = -1
theorem PZ.b {s : CS} (N : Nat) : ok (f_X0_clear N s) (fun R => PZ s (CS.setI R.2 50 0) 0) := by
  unfold f_X0_clear
  refine ok_some ⟨⟨⟨rfl, rfl, rfl, rfl, rfl, rfl, rfl, rfl⟩, rfl⟩, fun j j1 j2 => ?_, ⟨?_, ?_, ?_, ?_⟩, ?_, fun j hj => by omega⟩
  · rw [ci_ne _ _ _ j2, ci_ne _ _ _ (by omega), ci_ne _ _ _ (by omega), ci_ne _ _ _ (by omega), ci_ne _ _ _ (by omega), ci_ne _ _ _ (by omega), ci_ne _ _ _ (by omega), ci_ne _ _ _ (by omega), ci_ne _ _ _ (by omega)]
  · rw [ci_ne _ _ _ (by omega), ci_ne _ _ _ (by omega), ci_ne _ _ _ (by omega), ci_ne _ _ _ (by omega), ci_ne _ _ _ (by omega), ci_ne _ _ _ (by omega), ci_ne _ _ _ (by omega), ci_ne _ _ _ (by omega), ci_at]
  · rw [ci_ne _ _ _ (by omega), ci_ne _ _ _ (by omega), ci_ne _ _ _ (by omega), ci_ne _ _ _ (by omega), ci_ne _ _ _ (by omega), ci_ne _ _ _ (by omega), ci_ne _ _ _ (by omega), ci_at]
  · rw [ci_ne _ _ _ (by omega), ci_ne _ _ _ (by omega), ci_ne _ _ _ (by omega), ci_ne _ _ _ (by omega), ci_ne _ _ _ (by omega), ci_ne _ _ _ (by omega), ci_at]
  · rw [ci_ne _ _ _ (by omega), ci_at]
  · rw [ci_at]; exact z_t0
theorem PZ.nc {s R : CS} {n : Int} (h : PZ s R n) (N : Nat) (x : Int32) : ok (f_X0_newCells N R x) (fun T => PZ s T.2 n) := by
  unfold f_X0_newCells
  obtain ⟨h1, h2, ⟨h3, h4, h5, h6⟩, h7, h8⟩ := h
  refine ok_some ⟨h1.tr (HSM.i _ _ _), fun j j1 j2 => ?_, ⟨?_, ?_, ?_, ?_⟩, ?_, h8⟩
  · rw [ci_ne _ _ _ (by omega)]; exact h2 j j1 j2
  · rw [ci_ne _ _ _ (by omega)]; exact h3
  · rw [ci_ne _ _ _ (by omega)]; exact h4
  · rw [ci_ne _ _ _ (by omega)]; exact h5
  · rw [ci_ne _ _ _ (by omega)]; exact h6
  · rw [ci_ne _ _ _ (by omega)]; exact h7
theorem PZ.ad {s R : CS} {n : Int} (h : PZ s R n) (hn : 0 ≤ n ∧ n < 100) (N : Nat) (x : Int64) (y : Int32) : ok (f_X4_add N R x y (-1)) (fun T => PZ s T.2 (n + 1)) := by
  unfold f_X4_add
  obtain ⟨h1, h2, ⟨h3, h4, h5, h6⟩, h7, h8⟩ := h
  have e1 : (1 : Int32).toInt = 1 := by decide
  have e128 : (128 : Int32).toInt = 128 := by decide
  rw [if_neg (fun q => by have := le_int q; rw [e128] at this; omega), if_pos ⟨by omega, by omega⟩]
  have cl : (R.i 50).toNatClampNeg = n.toNat := by
    show (R.i 50).toInt.toNat = n.toNat
    rw [h7]
  refine ok_some ⟨h1.tr ((((HSM.b R _ x).tr (HSM.a _ 48 _ y)).tr (HSM.a _ 49 _ (-1))).tr (HSM.i _ _ _)), fun j j1 j2 => ?_, ⟨?_, ?_, ?_, ?_⟩, ?_, fun j hj => ?_⟩
  · rw [ci_ne _ _ _ j2]; exact h2 j j1 j2
  · rw [ci_ne _ _ _ (by omega)]; exact h3
  · rw [ci_ne _ _ _ (by omega)]; exact h4
  · rw [ci_ne _ _ _ (by omega)]; exact h5
  · rw [ci_ne _ _ _ (by omega)]; exact h6
  · rw [ci_at, toInt_add] <;> rw [e1] <;> omega
  · show upd (R.a 49) (R.i 50).toNatClampNeg (-1) j = -1
    rw [cl]
    by_cases q : j = n.toNat
    · exact if_pos q
    · refine (if_neg q).trans ?_
      exact h8 j (by omega)
/-- the first token stands -/
def STZ (s R : CS) : Prop := HSM s R ∧ (R.i 13 = s.i 13 ∧ R.i 14 = s.i 14) ∧ (R.i 20 = 0 ∧ R.i 21 = 0 ∧ R.i 22 = 0 ∧ R.i 27 = 0 ∧ (R.i 50).toInt = 2) ∧ (R.i 53 = 0 ∧ R.i 56 = -1 ∧ R.i 32 = 0 ∧ R.i 34 = 0 ∧ R.i 36 = 1 ∧ R.i 38 = 0) ∧ (∀ n : Nat, (n : Int) < 2 → R.a 49 n = -1) ∧ LC R
theorem PZ.st {s R : CS} {N : Nat} (hN : 1000 ≤ N) (h : PZ s R 2) (hw : WDC s) (x1 : Int32) (h1 : 0 ≤ x1.toInt ∧ x1.toInt ≤ 900) : ok ((f_X6_clear N R).bind fun p21 => f_X9_start N (CS.setI (CS.setI (CS.setI (CS.setI (CS.setI (CS.setI p21.2 32 0) 33 0) 34 0) 36 1) 37 (-1)) 38 0) x1) (fun T => STZ s T.2) := by
  obtain ⟨h2, h3, ⟨h4, h5, h6, h7⟩, h8, h9⟩ := h
  unfold f_X6_clear
  obtain ⟨Y, hY⟩ : ∃ Y, Y = CS.setI (CS.setI (CS.setI (CS.setI R 53 0) 54 0) 55 0) 56 (-1) := ⟨_, rfl⟩
  have y0 : HSM R Y ∧ Y.a = R.a := by rw [hY]; exact ⟨⟨⟨rfl, rfl, rfl, rfl, rfl, rfl, rfl, rfl⟩, rfl⟩, rfl⟩
  have yj : ∀ j : Nat, ¬ (53 ≤ j ∧ j ≤ 56) → Y.i j = R.i j := fun j hj => by
    rw [hY, ci_ne _ _ _ (by omega), ci_ne _ _ _ (by omega), ci_ne _ _ _ (by omega), ci_ne _ _ _ (by omega)]
  have y53 : Y.i 53 = 0 := by rw [hY, ci_ne _ _ _ (by omega), ci_ne _ _ _ (by omega), ci_ne _ _ _ (by omega), ci_at]
  have y56 : Y.i 56 = -1 := by rw [hY, ci_at]
  refine ok_bind (Q := fun p => p.2 = Y) (ok_some hY.symm) (fun p hp => ?_)
  rw [hp]
  clear hY hp
  obtain ⟨Z, hZ⟩ : ∃ Z, Z = CS.setI (CS.setI (CS.setI (CS.setI (CS.setI (CS.setI Y 32 0) 33 0) 34 0) 36 1) 37 (-1)) 38 0 := ⟨_, rfl⟩
  rw [← hZ]
  have z0 : HSM Y Z ∧ Z.a = Y.a := by rw [hZ]; exact ⟨⟨⟨rfl, rfl, rfl, rfl, rfl, rfl, rfl, rfl⟩, rfl⟩, rfl⟩
  have zj : ∀ j : Nat, ¬ (32 ≤ j ∧ j ≤ 38) → Z.i j = Y.i j := fun j hj => by
    rw [hZ, ci_ne _ _ _ (by omega), ci_ne _ _ _ (by omega), ci_ne _ _ _ (by omega), ci_ne _ _ _ (by omega), ci_ne _ _ _ (by omega), ci_ne _ _ _ (by omega)]
  have z32 : Z.i 32 = 0 := by rw [hZ, ci_ne _ _ _ (by omega), ci_ne _ _ _ (by omega), ci_ne _ _ _ (by omega), ci_ne _ _ _ (by omega), ci_ne _ _ _ (by omega), ci_at]
  have z34 : Z.i 34 = 0 := by rw [hZ, ci_ne _ _ _ (by omega), ci_ne _ _ _ (by omega), ci_ne _ _ _ (by omega), ci_at]
  have z36 : Z.i 36 = 1 := by rw [hZ, ci_ne _ _ _ (by omega), ci_ne _ _ _ (by omega), ci_at]
  have z38 : Z.i 38 = 0 := by rw [hZ, ci_at]
  clear hZ
  have hsZ : HSM s Z := (h2.tr y0.1).tr z0.1
  refine ok_imp (q_start hN (hsZ.wd hw) x1 h1) (fun T hT => ?_)
  obtain ⟨⟨⟨t1, t2, t3, t4, t5, t6, t7, t8, t9, t10, t11⟩, tj⟩, tl⟩ := hT
  have ti : ∀ j : Nat, ¬ (41 ≤ j ∧ j ≤ 45) → T.2.i j = Z.i j := fun j hj => by
    rw [tj j (by omega) (by omega) (by omega) (by omega), ci_ne _ _ _ (by omega)]
  have all : ∀ j : Nat, ¬ (41 ≤ j ∧ j ≤ 45) → ¬ (32 ≤ j ∧ j ≤ 38) → ¬ (53 ≤ j ∧ j ≤ 56) → T.2.i j = R.i j := fun j q1 q2 q3 => ((ti j q1).trans (zj j q2)).trans (yj j q3)
  refine ⟨hsZ.tr ⟨⟨t1, t2, t3, t4, t5, t6, t8, t9⟩, by rw [t10]; rfl⟩, ⟨?_, ?_⟩, ⟨?_, ?_, ?_, ?_, ?_⟩, ⟨?_, ?_, ?_, ?_, ?_, ?_⟩, fun n hn => ?_, tl⟩
  · rw [all 13 (by omega) (by omega) (by omega)]; exact h3 13 (by omega) (by omega)
  · rw [all 14 (by omega) (by omega) (by omega)]; exact h3 14 (by omega) (by omega)
  · rw [all 20 (by omega) (by omega) (by omega)]; exact h4
  · rw [all 21 (by omega) (by omega) (by omega)]; exact h5
  · rw [all 22 (by omega) (by omega) (by omega)]; exact h6
  · rw [all 27 (by omega) (by omega) (by omega)]; exact h7
  · rw [all 50 (by omega) (by omega) (by omega)]; exact h8
  · rw [ti 53 (by omega), zj 53 (by omega)]; exact y53
  · rw [ti 56 (by omega), zj 56 (by omega)]; exact y56
  · rw [ti 32 (by omega)]; exact z32
  · rw [ti 34 (by omega)]; exact z34
  · rw [ti 36 (by omega)]; exact z36
  · rw [ti 38 (by omega)]; exact z38
  · have e : T.2.a 49 n = R.a 49 n := by
      rw [t11, ca_setI, z0.2, y0.2]
    rw [e]
    exact h9 n hn
end
section
/-! the class's reading: whole -/
theorem ok_assc {α β γ : Type} {x : Option α} {f : α → Option β} {g : β → Option γ} {P : γ → Prop} (h : ok ((x.bind f).bind g) P) : ok (x.bind fun p => (f p).bind g) P := by
  rw [Option.bind_assoc] at h
  exact h
def b0B : (Nat → Option Nat) × (Nat → Prop) := (fun _ => none, fun _ => False)
theorem STZ.jj {h : Nat} {s R : CS} (hc : CIV h s) (hs : STZ s R) : JJ (h, b0B) 0 0 [] [] [] [0] R := by
  obtain ⟨c1, c2, c3, c4, ⟨c5, c6⟩, -, -⟩ := hc
  obtain ⟨s1, ⟨s2, s3⟩, ⟨s4, s5, s6, s7, s8⟩, ⟨s9, s10, s11, s12, s13, s14⟩, s15, s16⟩ := hs
  have ecn : cnI R = 0 := by unfold cnI; rw [s9]; exact z_t0
  have etc : tcI R = 0 := by unfold tcI; rw [s5]; exact z_t0
  have ecc : ccI R = 0 := by unfold ccI; rw [s6]; exact z_t0
  have esz : szI R = 0 := by unfold szI; rw [s4]; exact z_t0
  have esg : sgI R = 0 := by unfold sgI; rw [s12]; exact z_t0
  have eds : dsI R = 0 := by unfold dsI; rw [s14]; exact z_t0
  have enm : nmI R = 2 := s8
  have m1 : (-1 : Int32).toInt = -1 := by decide
  have cb : CBS (h, b0B) R := by
    refine ⟨s1.refs c1, ⟨s1.room c2, fun i a e => (by cases e), fun _ t ht => ht.elim⟩, s16, s1.wd c3, fun q => absurd s11 q, by rw [enm]; omega, ⟨by rw [ecn]; omega, by rw [ecn]; omega, fun i hi => by rw [ecn] at hi; exact absurd hi (by omega)⟩, ?_, Or.inr s13, ⟨by rw [s3]; exact c5, by rw [s2]; exact c6⟩, Or.inl s7⟩
    intro i a hi e
    obtain ⟨⟨a1, a2, a3, a4, a5, a6, a7, a8⟩, -⟩ := s1
    rw [a7] at e
    rw [a4]
    exact c4 i a hi e
  have pl := cb.pl
  have eg := eI.ge R
  refine ⟨cb, fun _ => ⟨⟨fun _ => [], fun _ => [], fun _ => False, fun p _ hp => by rw [esz] at hp; omega, fun t ht => by rw [etc] at ht; omega, fun t ht => by rw [etc] at ht; omega, ⟨by rw [esz]; omega, rfl, rfl⟩, fun q hq => (by cases hq), ⟨0, by rw [ecn]; rfl, by omega, rfl, 0, rfl, by omega⟩, fun n hn => ?_, by rw [etc]; omega, by rw [ecc]; exact Int.le_refl _, fun i a hi => by rw [ecn] at hi; omega⟩, ?_⟩⟩
  · rw [enm] at hn
    left
    rw [s15 n hn, m1]
    omega
  · have e0 : (cnI R).toNat = 0 := by rw [ecn]; rfl
    refine ⟨by omega, ⟨by omega, by omega⟩, by omega, by omega, ?_, ?_, ?_, ⟨by rw [eds]; rfl, by decide⟩, ?_⟩
    · rw [e0]
      intro m hm
      have em : m = 0 := by omega
      rw [em]
      have := (cnt.le (KLS R 0) 26).1
      show (3 : Int) * ((0 : Nat) : Int) ≤ 0 + 3 * 0 + 20 * 0 + cnt (KLS R 0) 26 + 3
      omega
    · rw [e0]
      show (0 : Int) ≤ eI R
      omega
    · rw [e0]
      show (0 : Int) ≤ sgI R
      omega
    · rw [s10, m1, ecn]
      refine ⟨by omega, by omega, fun a q => by omega⟩
theorem IQ.root {s R : CS} {n a : Nat} (h : IQ s n) (hn : n = 0) (ha : R.r 51 n = some a) (h0 : R.o a 0 = 300) : IQ R (n + 1) ∧ WCS R (n + 1) = 0 := by
  subst hn
  have er := rowA.of ha
  have w1 : WCS R 1 = 0 := by
    show WCS R 0 + cost R (rowA R 0) = 0
    rw [er]
    unfold cost
    rw [if_pos (Or.inl h0)]
    rfl
  refine ⟨fun m hm => ?_, w1⟩
  by_cases c : m = 0
  · rw [c]
    have := (cnt.le (KLS R 0) 26).1
    show (3 : Int) * ((0 : Nat) : Int) ≤ 0 + 3 * 0 + 20 * 0 + cnt (KLS R 0) 26 + 3
    omega
  · have em : m = 1 := by omega
    rw [em, w1]
    have b := (BAS (s := R) 1)
    have k := (cnt.le (KLS R 1) 26).1
    omega
/-- the whole text is one row -/
theorem STZ.row {h : Nat} {s R p : CS} {v : Int32} {m a : Nat} (hc : CIV h s) (hs : STZ s R) (px : PRX (h, b0B) 0 0 [] [] [] [] [] [0] v m a R 0 0 0 p) (o0 : p.o a 0 = 300) (o2 : p.o a 2 = 0) (o3 : p.o a 3 = R.i 50) (i50 : p.i 50 = R.i 50) (nf : p.i 32 = 0) : m = 0 ∧ cnI p = 1 ∧ ccI p = 0 ∧ sgI p = 0 ∧ JJ (h, b0B) 50 0 [] [] [] [0] p := by
  have jR := hs.jj hc
  obtain ⟨s1, ⟨s2, s3⟩, ⟨s4, s5, s6, s7, s8⟩, ⟨s9, s10, s11, s12, s13, s14⟩, s15, s16⟩ := hs
  obtain ⟨⟨k1, ⟨k2, k3, m4, k5, k6⟩, k7, jV⟩, hsx⟩ := px
  have sx := hsx nf
  obtain ⟨vm, cm⟩ := k7 nf
  have Vi : ∀ j : Nat, j ≠ 53 → (CS.setI p 53 v).i j = p.i j := fun j hj => ci_ne _ _ _ hj
  have V53 : cnI (CS.setI p 53 v) = (m : Int) := by unfold cnI; rw [ci_at]; exact vm
  have Va : (CS.setI p 53 v).a = p.a := ca_setI ..
  have Vr : (CS.setI p 53 v).r = p.r := cr_setI ..
  have Vo : (CS.setI p 53 v).o = p.o := co_setI ..
  have Vol : (CS.setI p 53 v).ol = p.ol := col_setI ..
  generalize CS.setI p 53 v = V at *
  obtain ⟨-, ⟨t1, t1'⟩, t2, ⟨t3, t4, t5, t6⟩, t7, t8, t9, t10⟩ := sx
  have ecR : cnI R = 0 := by unfold cnI; rw [s9]; exact z_t0
  have m0 : (m : Int) = 0 := by rw [← V53, ← ecR]; unfold cnI; rw [t4]
  have em : m = 0 := by omega
  have sgR : sgI R = 0 := by unfold sgI; rw [s12]; exact z_t0
  have ecc : ccI V = 0 := by unfold ccI; rw [t6, s6]; exact z_t0
  have enm : nmI V = nmI R := by unfold nmI; rw [Vi 50 (by decide), i50]
  have nfV : V.i 32 = 0 := (Vi 32 (by decide)).trans nf
  have n := (jV.2 nfV).2
  have iq := n.2.2.2.2.1
  rw [show (cnI V).toNat = m by omega] at iq
  obtain ⟨q1, q2⟩ := iq.root em k3 o0
  have etc : tcI p = tcI V := by unfold tcI; rw [Vi 21 (by decide)]
  have dsV : dsI V = 0 := by unfold dsI; rw [t3, s14]; exact z_t0
  have dsp : dsI p = dsI V := by unfold dsI; rw [Vi 38 (by decide)]
  have sgV : sgI p = sgI V := by unfold sgI; rw [Vi 34 (by decide)]
  have ccp : ccI p = ccI V := by unfold ccI; rw [Vi 22 (by decide)]
  have plV := jV.1.pl
  have eV := eI.ge V
  have er := rowA.of k3
  have sg1 : SGS p (m + 1) = 0 := by
    rw [em] at er ⊢
    show SGS p 0 + sgn p (rowA p 0) = 0
    rw [er]
    unfold sgn
    rw [o0]
    rfl
  have bas : 0 ≤ SGS V m := (BAS (s := V) m).2.2.2.1
  have jp := jV.row (c' := []) (d' := []) (P' := []) (lim' := [0]) (R := p) nfV k1 V53.symm m4 ⟨⟨by rw [Va], by rw [Va], by rw [Va], by rw [Va], by rw [Va]⟩, by rw [Vi 20 (by decide)], by rw [Vi 21 (by decide)], by rw [Vi 50 (by decide)], by rw [Vi 22 (by decide)]⟩ cm k3 (fun i hi => by omega) (by have := arx.nn p a; show (0 : Int) ≤ _; omega) (fun DT KT qX qN => ⟨by rw [o2, z_t0]; rfl, fun j hj => by
      rw [← Va]
      refine qN j ?_
      rw [o3] at hj
      rw [enm]; exact hj, Or.inl ⟨Or.inl o0, rfl, rfl⟩⟩) (fun k hk => (by cases hk)) (fun _ z => z) (by rw [ecc]; exact Int.le_refl _) ⟨by rw [o3, enm]; exact Int.le_refl _, fun j b hj eb => by omega⟩ ⟨(Vi 34 (by decide)).symm, (Vi 43 (by decide)).symm, (Vi 44 (by decide)).symm⟩ ⟨by rw [dsp, dsV]; rfl, by decide⟩ q1 (by rw [q2]; omega) (by rw [sg1]; omega) (Or.inl (Vi 56 (by decide)).symm)
  exact ⟨em, by omega, by omega, by omega, JK.j (jp.w (by omega) (Int.le_refl _))⟩
theorem q_transTail {N : Nat} (E1 : CS → Option (Unit × CS)) (E2 : CS → Option (Int32 × CS)) {H : HB} {R : CS} (h1 : CBS H R) (h2 : R.i 32 = 0 → ∃ D, WTC R D) : ok (if (R.i 37) < 0 then f_X7_translate_139 N E1 E2 R else (f_X1_fail N R 7 (R.i 37)).bind fun p40 => f_X7_translate_139 N E1 E2 p40.2) (fun T => T.1 = T.2.i 32 ∧ CBS H T.2 ∧ (T.2.i 32 = 0 → ∃ D, WTC T.2 D)) := by
  unfold f_X7_translate_139
  refine ok_ite (fun _ => ok_some ⟨rfl, h1, h2⟩) (fun _ => ok_bind (q_failC h1 7 (R.i 37) (by decide)) (fun p hp => ok_some ⟨rfl, ?_, fun q => absurd q hp.2.2.2.1⟩))
  exact (JJ.flt (x := 0) (y := 0) (c := []) (X := []) (P := []) (lim := []) h1 hp).1
/-- a whole text is read -/
theorem q_translate {N : Nat} (hN : 10000000000 ≤ N) {h : Nat} {s : CS} (hc : CIV h s) (x1 : Int32) (hx : 0 ≤ x1.toInt ∧ x1.toInt ≤ 900) : ok (f_X7_translate N (fEE N 23).1 (fEE N 23).2 s x1) (fun T => T.1 = T.2.i 32 ∧ CBS (h, b0B) T.2 ∧ (T.2.i 32 = 0 → ∃ D, WTC T.2 D)) := by
  have top := q_top23 hN h
  generalize (fEE N 23).1 = E1 at *
  generalize (fEE N 23).2 = E2 at *
  have hN1 : 1000 ≤ N := by omega
  have wd := hc.2.2.1
  unfold f_X7_translate
  refine ok_bind (PZ.b N) (fun p1 z1 => ok_bind (z1.nc N 1) (fun p5 z5 => ok_bind (z5.ad (by omega) N 97 p5.1) (fun p9 z9 => ok_bind (z9.nc N 1) (fun p13 z13 => ok_bind (z13.ad (by omega) N 98 p13.1) (fun p17 z17 => ?_)))))
  clear z1 z5 z9 z13
  have z2 : PZ s p17.2 2 := z17
  refine ok_assc ?_
  refine ok_bind (PZ.st hN1 z2 wd x1 hx) (fun p25 sta => ?_)
  clear z17 z2
  have jR := sta.jj hc
  have nfR : p25.2.i 32 = 0 := sta.2.2.2.1.2.2.1
  refine ok_bind (PRX.of (s0 := p25.2) jR.k (fun q => SX.rf q) 300 0 (p25.2.i 50) jR.1.nm) (fun p hp => ?_)
  obtain ⟨v, a, m, r1, px, ⟨o0, o2, o3, ol⟩, -, pi, pa⟩ := hp
  have nf : p.2.i 32 = 0 := (pi 32 (by decide) (by decide)).trans nfR
  obtain ⟨em, ecn, ecc, esg, jp⟩ := sta.row hc px o0 o2 o3 (pi 50 (by decide) (by decide)) nf
  subst em
  rw [r1]
  show ok ((f_X7_turns_2 N E1 E2 N p.2 0 0).bind fun p44 => (if (p44.2.i 37) < 0 then f_X7_translate_139 N E1 E2 p44.2 else (f_X1_fail N p44.2 7 (p44.2.i 37)).bind fun p49 => f_X7_translate_139 N E1 E2 p49.2)) _
  refine ok_bind (Q := fun w => CBS (h, b0B) w.2 ∧ (w.2.i 32 = 0 → ∃ D, WTC w.2 D)) ?_ (fun w hw => q_transTail E1 E2 hw.1 hw.2)
  have ra := px.1.2.1.2.1
  have nrB : NR p.2 1 := by
    have := jp.1.2.2.2.2.2.2.1.2.2
    rw [ecn] at this
    exact this
  have jp' : JJ (h, b0B) 50 0 [] [] [] (ccI p.2 :: []) p.2 := by rw [ecc]; exact jp
  have ams : ((([] : List Int).length : Nat) : Int) = 2 * AMS p.2 1 := by
    have e : AMS p.2 1 = 0 := by
      show AMS p.2 0 + (if p.2.o (rowA p.2 0) 0 = 302 then 1 else 0) = 0
      rw [rowA.of ra, o0]
      rfl
    rw [e]; rfl
  have ti : TIV (h, b0B) 50 0 [] [] [] p.2 0 (p.2.o a 3).toInt p.2 := ⟨jp.1, fun _ => ⟨⟨[], jp'⟩, ⟨Int.le_refl _, Int.le_refl _⟩, by rw [show (cnI p.2).toNat = 0 + 1 by omega], by omega, RSQ.rf _ _, fun _ _ => rfl, fun _ _ => ⟨rfl, rfl⟩, rfl, fun i b i0 i1 eb e5 => by
    have ei : i = 0 := by omega
    rw [ei, ra] at eb
    cases eb
    rw [o0] at e5
    exact absurd e5 (by decide)⟩⟩
  have bp := jp.1.pl
  have e0 : (0 : Int32).toInt = 0 := by decide
  refine q_turns2 (H := (h, b0B)) (k := 24) hN (fun b => (top b).1) (fun b => (top b).2) (by omega) (by omega) ⟨nf, nrB⟩ ra rfl (Or.inl o0) ams (by omega) (by omega) (by rw [e0]; rfl) (Q := fun R => CBS (h, b0B) R ∧ (R.i 32 = 0 → ∃ D, WTC R D)) (fun R c1 c2 => ⟨c1, fun q => absurd q c2⟩) (fun σ c' jσ tσ uσ oσ => ?_) N p.2 0 (by rw [e0]; omega) (by omega) (fun _ => by rw [e0]; omega) ti
  refine ok_imp (q_endRoot hN1 (by omega) (by omega) jσ uσ (by rw [oσ]; exact o0)) (fun R hR => ⟨⟨hR.1.1, fun q => (hR.2 q).2 rfl rfl⟩, fun q => (hR.2 q).1⟩)
end
section
/-! the class: the reading leaves the length of the text alone -/
def Kp5 {α : Type} (n : Int32) (t : Option (α × CS)) : Prop := ∀ R, t = some R → CS.i R.2 5 = n
theorem kp5_some {α : Type} {n : Int32} {r : α × CS} (h : CS.i r.2 5 = n) : Kp5 n (some r) := fun R q => by
  cases q
  exact h
theorem kp5_none {α : Type} {n : Int32} : Kp5 n (none : Option (α × CS)) := fun R q => by cases q
theorem kp5_ite {α : Type} {n : Int32} {c : Prop} [Decidable c] {x y : Option (α × CS)} (hx : Kp5 n x) (hy : Kp5 n y) : Kp5 n (if c then x else y) := by
  by_cases h : c
  · rw [if_pos h]; exact hx
  · rw [if_neg h]; exact hy
theorem kp5_bind {α β : Type} {n : Int32} {x : Option (α × CS)} {k : α × CS → Option (β × CS)} (hx : Kp5 n x) (hk : ∀ p : α × CS, Kp5 (CS.i p.2 5) (k p)) : Kp5 n (x.bind k) := by
  intro R h
  cases hx' : x with
  | none => rw [hx'] at h; cases h
  | some p =>
    rw [hx'] at h
    exact (hk p R h).trans (hx p hx')
theorem kp5_oc {α β : Type} {n : Int32} {r : Option α} {x : Option (β × CS)} {f : α → Option (β × CS)} (hx : Kp5 n x) (hf : ∀ a, Kp5 n (f a)) : Kp5 n (oCase r x f) := by
  cases r with
  | none => exact hx
  | some a => exact hf a
theorem kp5_le {α : Type} {n k : Int32} {t : Option (α × CS)} (h : n = k) (ht : Kp5 n t) : Kp5 k t := by rw [← h]; exact ht
theorem k5_X0_clear (N : Nat) (σ : CS) : Kp5 (CS.i σ 5) (f_X0_clear N σ) := by
  unfold f_X0_clear
  exact (kp5_some (rfl))
theorem k5_X0_add (N : Nat) (σ : CS) (x1 : Int32) (x2 : Int32) : Kp5 (CS.i σ 5) (f_X0_add N σ x1 x2) := by
  unfold f_X0_add
  exact (kp5_some (rfl))
theorem k5_X0_newTarget (N : Nat) (σ : CS) : Kp5 (CS.i σ 5) (f_X0_newTarget N σ) := by
  unfold f_X0_newTarget
  exact (kp5_some (rfl))
theorem k5_X0_aim (N : Nat) (σ : CS) (x1 : Int32) : Kp5 (CS.i σ 5) (f_X0_aim N σ x1) := by
  unfold f_X0_aim
  exact (kp5_some (rfl))
theorem k5_X0_newCells (N : Nat) (σ : CS) (x1 : Int32) : Kp5 (CS.i σ 5) (f_X0_newCells N σ x1) := by
  unfold f_X0_newCells
  exact (kp5_some (rfl))
theorem kb5_X0_hasCase_2 (N : Nat) (K : CS → Int32 → Int32 → Option (Int32 × CS)) (hMK : ∀ (σ : CS) (x2 : Int32) (x3 : Int32), Kp5 (CS.i σ 5) (K σ x2 x3)) (σ : CS) (x2 : Int32) (x3 : Int32) : Kp5 (CS.i σ 5) (b_X0_hasCase_2 N K σ x2 x3) := by
  unfold b_X0_hasCase_2
  exact (kp5_ite (kp5_some (rfl)) (kp5_ite (kp5_some (rfl)) (hMK σ x2 (x3 + 1))))
theorem k5_X0_hasCase_2 (N : Nat) : ∀ (n : Nat) (σ : CS) (x2 : Int32) (x3 : Int32), Kp5 (CS.i σ 5) (f_X0_hasCase_2 N n σ x2 x3)
  | 0, _, _, _ => kp5_none
  | n+1, σ, x2, x3 => kb5_X0_hasCase_2 N (f_X0_hasCase_2 N n) (fun σ x2 x3 => k5_X0_hasCase_2 N n σ x2 x3) σ x2 x3
theorem k5_X0_hasCase (N : Nat) (σ : CS) (x1 : Int32) (x2 : Int32) : Kp5 (CS.i σ 5) (f_X0_hasCase N σ x1 x2) := by
  unfold f_X0_hasCase
  exact (k5_X0_hasCase_2 N N σ x2 x1)
theorem k5_X0_addCase (N : Nat) (σ : CS) (x1 : Int32) (x2 : Int32) : Kp5 (CS.i σ 5) (f_X0_addCase N σ x1 x2) := by
  unfold f_X0_addCase
  exact (kp5_some (rfl))
theorem kb5_X0_addCases_2 (N : Nat) (K : CS → Int32 → Int32 → Int32 → Option (Unit × CS)) (hMK : ∀ (σ : CS) (x1 : Int32) (x2 : Int32) (x3 : Int32), Kp5 (CS.i σ 5) (K σ x1 x2 x3)) (σ : CS) (x1 : Int32) (x2 : Int32) (x3 : Int32) : Kp5 (CS.i σ 5) (b_X0_addCases_2 N K σ x1 x2 x3) := by
  unfold b_X0_addCases_2
  exact (kp5_ite (kp5_bind (k5_X0_add N (CS.setI σ 22 x1) 6 0) (fun p2 => (kp5_bind (k5_X0_add N p2.2 30 x2) (fun p6 => (kp5_some (rfl)))))) (kp5_bind (k5_X0_add N σ 0 (gAt (σ.a 18) 320 x3)) (fun p11 => (kp5_bind (k5_X0_add N p11.2 34 (gAt (p11.2.a 19) 320 x3)) (fun p16 => (hMK p16.2 x1 x2 (x3 + 1)))))))
theorem k5_X0_addCases_2 (N : Nat) : ∀ (n : Nat) (σ : CS) (x1 : Int32) (x2 : Int32) (x3 : Int32), Kp5 (CS.i σ 5) (f_X0_addCases_2 N n σ x1 x2 x3)
  | 0, _, _, _, _ => kp5_none
  | n+1, σ, x1, x2, x3 => kb5_X0_addCases_2 N (f_X0_addCases_2 N n) (fun σ x1 x2 x3 => k5_X0_addCases_2 N n σ x1 x2 x3) σ x1 x2 x3
theorem k5_X0_addCases (N : Nat) (σ : CS) (x1 : Int32) (x2 : Int32) : Kp5 (CS.i σ 5) (f_X0_addCases N σ x1 x2) := by
  unfold f_X0_addCases
  exact (k5_X0_addCases_2 N N σ x1 x2 x1)
theorem k5_X9_stop (N : Nat) (σ : CS) : Kp5 (CS.i σ 5) (f_X9_stop N σ) := by
  unfold f_X9_stop
  exact (kp5_some (rfl))
theorem k5_X1_fail (N : Nat) (σ : CS) (x1 : Int32) (x2 : Int32) : Kp5 (CS.i σ 5) (f_X1_fail N σ x1 x2) := by
  unfold f_X1_fail
  exact (kp5_ite (kp5_bind (k5_X9_stop N (CS.setI (CS.setI σ 32 x1) 33 x2)) (fun p2 => (kp5_some (rfl)))) (kp5_some (rfl)))
theorem k5_X1_found (N : Nat) (σ : CS) (x1 : Int32) : Kp5 (CS.i σ 5) (f_X1_found N σ x1) := by
  unfold f_X1_found
  exact (kp5_ite (kp5_some (rfl)) (kp5_some (rfl)))
theorem k5_X1_misplaced (N : Nat) (σ : CS) : Kp5 (CS.i σ 5) (f_X1_misplaced N σ) := by
  unfold f_X1_misplaced
  exact (kp5_bind (k5_X1_found N σ 6) (fun p1 => (kp5_ite (kp5_bind (k5_X1_fail N p1.2 2 (p1.2.i 44)) (fun p6 => (kp5_some (rfl)))) (kp5_bind (k5_X1_fail N p1.2 1 (p1.2.i 44)) (fun p10 => (kp5_some (rfl)))))))
theorem k5_X9_byteAt_30 (N : Nat) (σ : CS) : Kp5 (CS.i σ 5) (f_X9_byteAt_30 N σ ) := by
  unfold f_X9_byteAt_30
  exact (kp5_some (rfl))
theorem k5_X9_byteAt (N : Nat) (σ : CS) (x1 : Int32) : Kp5 (CS.i σ 5) (f_X9_byteAt N σ x1) := by
  unfold f_X9_byteAt
  exact (kp5_ite (k5_X9_byteAt_30 N σ) (kp5_ite (k5_X9_byteAt_30 N σ) (kp5_ite (k5_X9_byteAt_30 N σ) (kp5_ite (kp5_some (rfl)) kp5_none))))
theorem k5_X9_isDigit_16 (N : Nat) (σ : CS) : Kp5 (CS.i σ 5) (f_X9_isDigit_16 N σ ) := by
  unfold f_X9_isDigit_16
  exact (kp5_some (rfl))
theorem k5_X9_isDigit (N : Nat) (σ : CS) (x0 : Int32) : Kp5 (CS.i σ 5) (f_X9_isDigit N σ x0) := by
  unfold f_X9_isDigit
  exact (kp5_ite (k5_X9_isDigit_16 N σ) (kp5_ite (k5_X9_isDigit_16 N σ) (kp5_some (rfl))))
theorem k5_X9_takeNumber_67 (N : Nat) (σ : CS) : Kp5 (CS.i σ 5) (f_X9_takeNumber_67 N σ ) := by
  unfold f_X9_takeNumber_67
  exact (kp5_ite (kp5_some (rfl)) (kp5_some (rfl)))
theorem kb5_X9_takeNumber_7 (N : Nat) (K : CS → Int32 → Option (Unit × CS)) (hMK : ∀ (σ : CS) (x1 : Int32), Kp5 (CS.i σ 5) (K σ x1)) (σ : CS) (x1 : Int32) : Kp5 (CS.i σ 5) (b_X9_takeNumber_7 N K σ x1) := by
  unfold b_X9_takeNumber_7
  exact (kp5_ite (k5_X9_takeNumber_67 N σ) (kp5_bind (k5_X9_byteAt N σ (σ.i 42)) (fun p3 => (kp5_bind (k5_X9_isDigit N p3.2 p3.1) (fun p7 => (kp5_ite (k5_X9_takeNumber_67 N p7.2) (kp5_bind (k5_X9_byteAt N p7.2 (p7.2.i 42)) (fun p12 => (hMK (CS.setI (CS.setI p12.2 45 ((((p7.2.i 45) * 10) + p12.1) - 48)) 42 ((p12.2.i 42) + 1)) (x1 + 1))))))))))
theorem k5_X9_takeNumber_7 (N : Nat) : ∀ (n : Nat) (σ : CS) (x1 : Int32), Kp5 (CS.i σ 5) (f_X9_takeNumber_7 N n σ x1)
  | 0, _, _ => kp5_none
  | n+1, σ, x1 => kb5_X9_takeNumber_7 N (f_X9_takeNumber_7 N n) (fun σ x1 => k5_X9_takeNumber_7 N n σ x1) σ x1
theorem k5_X9_takeNumber (N : Nat) (σ : CS) : Kp5 (CS.i σ 5) (f_X9_takeNumber N σ) := by
  unfold f_X9_takeNumber
  exact (k5_X9_takeNumber_7 N N (CS.setI σ 45 0) 0)
theorem k5_X9_isLetter_16 (N : Nat) (σ : CS) : Kp5 (CS.i σ 5) (f_X9_isLetter_16 N σ ) := by
  unfold f_X9_isLetter_16
  exact (kp5_some (rfl))
theorem k5_X9_isLetter (N : Nat) (σ : CS) (x0 : Int32) : Kp5 (CS.i σ 5) (f_X9_isLetter N σ x0) := by
  unfold f_X9_isLetter
  exact (kp5_ite (k5_X9_isLetter_16 N σ) (kp5_ite (k5_X9_isLetter_16 N σ) (kp5_some (rfl))))
theorem k5_X9_rowType_171 (N : Nat) (σ : CS) (x6 : Int64) : Kp5 (CS.i σ 5) (f_X9_rowType_171 N σ x6) := by
  unfold f_X9_rowType_171
  exact (kp5_ite (kp5_ite (kp5_some (rfl)) (kp5_some (rfl))) (kp5_ite (kp5_ite (kp5_some (rfl)) (kp5_ite (kp5_some (rfl)) (kp5_some (rfl)))) (kp5_some (rfl))))
theorem k5_X9_rowType_153 (N : Nat) (σ : CS) (x2 : Int64) (x4 : Int32) (x6 : Int64) : Kp5 (CS.i σ 5) (f_X9_rowType_153 N σ x2 x4 x6) := by
  unfold f_X9_rowType_153
  exact (kp5_ite (k5_X9_rowType_171 N (CS.setI σ 45 (((x2 : Int64).toInt32) + 10)) x6) (k5_X9_rowType_171 N (CS.setI σ 45 (((x2 : Int64).toInt32) + 0)) x6))
theorem k5_X9_rowType_129 (N : Nat) (σ : CS) (x2 : Int64) (x4 : Int32) : Kp5 (CS.i σ 5) (f_X9_rowType_129 N σ x2 x4) := by
  unfold f_X9_rowType_129
  exact (kp5_ite (k5_X9_rowType_153 N σ x2 x4 (σ.l >>> ((16 : Int32).toInt64 &&& 63))) (k5_X9_rowType_153 N σ x2 x4 (σ.l >>> ((8 : Int32).toInt64 &&& 63))))
theorem k5_X9_rowType_117 (N : Nat) (σ : CS) (x2 : Int64) (x4 : Int32) (x5 : Int32) : Kp5 (CS.i σ 5) (f_X9_rowType_117 N σ x2 x4 x5) := by
  unfold f_X9_rowType_117
  exact (kp5_ite (kp5_ite (kp5_some (rfl)) (k5_X9_rowType_129 N σ x2 x4)) (k5_X9_rowType_129 N σ x2 x4))
theorem k5_X9_rowType_114 (N : Nat) (σ : CS) (x2 : Int64) (x4 : Int32) : Kp5 (CS.i σ 5) (f_X9_rowType_114 N σ x2 x4) := by
  unfold f_X9_rowType_114
  exact (k5_X9_rowType_117 N σ x2 x4 0)
theorem k5_X9_rowType_73 (N : Nat) (σ : CS) (x1 : Int32) (x2 : Int64) (x4 : Int32) : Kp5 (CS.i σ 5) (f_X9_rowType_73 N σ x1 x2 x4) := by
  unfold f_X9_rowType_73
  exact (kp5_ite (kp5_ite (k5_X9_rowType_114 N σ x2 x4) (kp5_ite (k5_X9_rowType_114 N σ x2 x4) (kp5_ite (k5_X9_rowType_117 N σ x2 x4 1) (k5_X9_rowType_114 N σ x2 x4)))) (k5_X9_rowType_114 N σ x2 x4))
theorem k5_X9_rowType_70 (N : Nat) (σ : CS) (x1 : Int32) (x2 : Int64) : Kp5 (CS.i σ 5) (f_X9_rowType_70 N σ x1 x2) := by
  unfold f_X9_rowType_70
  exact (k5_X9_rowType_73 N σ x1 x2 0)
theorem kb5_X9_rowType_2 (N : Nat) (K : CS → Int32 → Int32 → Option (Int32 × CS)) (hMK : ∀ (σ : CS) (x1 : Int32) (x2 : Int32), Kp5 (CS.i σ 5) (K σ x1 x2)) (σ : CS) (x1 : Int32) (x2 : Int32) : Kp5 (CS.i σ 5) (b_X9_rowType_2 N K σ x1 x2) := by
  unfold b_X9_rowType_2
  exact (kp5_ite (kp5_ite (kp5_ite (k5_X9_rowType_70 N σ x1 ((σ.l &&& 255) - 48)) (kp5_ite (k5_X9_rowType_70 N σ x1 ((σ.l &&& 255) - 48)) (k5_X9_rowType_73 N σ x1 ((σ.l &&& 255) - 48) 1))) (k5_X9_rowType_70 N σ x1 ((σ.l &&& 255) - 48))) (kp5_ite (kp5_ite (kp5_some (rfl)) (hMK σ x1 (x2 + 1))) kp5_none))
theorem k5_X9_rowType_2 (N : Nat) : ∀ (n : Nat) (σ : CS) (x1 : Int32) (x2 : Int32), Kp5 (CS.i σ 5) (f_X9_rowType_2 N n σ x1 x2)
  | 0, _, _, _ => kp5_none
  | n+1, σ, x1, x2 => kb5_X9_rowType_2 N (f_X9_rowType_2 N n) (fun σ x1 x2 => k5_X9_rowType_2 N n σ x1 x2) σ x1 x2
theorem k5_X9_rowType (N : Nat) (σ : CS) (x1 : Int32) : Kp5 (CS.i σ 5) (f_X9_rowType N σ x1) := by
  unfold f_X9_rowType
  exact (k5_X9_rowType_2 N N σ x1 0)
theorem k5_X9_takeRow_79 (N : Nat) (σ : CS) : Kp5 (CS.i σ 5) (f_X9_takeRow_79 N σ ) := by
  unfold f_X9_takeRow_79
  exact (kp5_ite (kp5_bind (k5_X9_rowType N σ ((σ.i 42) - (σ.i 44))) (fun p3 => (kp5_some (rfl)))) (kp5_some (rfl)))
theorem kb5_X9_takeRow_7 (N : Nat) (K : CS → Int32 → Option (Unit × CS)) (hMK : ∀ (σ : CS) (x1 : Int32), Kp5 (CS.i σ 5) (K σ x1)) (σ : CS) (x1 : Int32) : Kp5 (CS.i σ 5) (b_X9_takeRow_7 N K σ x1) := by
  unfold b_X9_takeRow_7
  exact (kp5_ite (k5_X9_takeRow_79 N σ) (kp5_bind (k5_X9_byteAt N σ (σ.i 42)) (fun p7 => (kp5_bind (k5_X9_isDigit N p7.2 p7.1) (fun p11 => (kp5_ite (kp5_bind (k5_X9_byteAt N p11.2 (p11.2.i 42)) (fun p20 => (kp5_bind (k5_X9_isLetter N p20.2 p20.1) (fun p24 => (kp5_ite (k5_X9_takeRow_79 N p24.2) (kp5_bind (k5_X9_byteAt N p24.2 (p24.2.i 42)) (fun p29 => (hMK (CS.setI (CS.setL p29.2 ((p24.2.l <<< ((8 : Int32).toInt64 &&& 63)) ||| (p29.1 : Int32).toInt64)) 42 ((p29.2.i 42) + 1)) (x1 + 1))))))))) (kp5_bind (k5_X9_byteAt N p11.2 (p11.2.i 42)) (fun p16 => (hMK (CS.setI (CS.setL p16.2 ((p11.2.l <<< ((8 : Int32).toInt64 &&& 63)) ||| (p16.1 : Int32).toInt64)) 42 ((p16.2.i 42) + 1)) (x1 + 1))))))))))
theorem k5_X9_takeRow_7 (N : Nat) : ∀ (n : Nat) (σ : CS) (x1 : Int32), Kp5 (CS.i σ 5) (f_X9_takeRow_7 N n σ x1)
  | 0, _, _ => kp5_none
  | n+1, σ, x1 => kb5_X9_takeRow_7 N (f_X9_takeRow_7 N n) (fun σ x1 => k5_X9_takeRow_7 N n σ x1) σ x1
theorem k5_X9_takeRow (N : Nat) (σ : CS) : Kp5 (CS.i σ 5) (f_X9_takeRow N σ) := by
  unfold f_X9_takeRow
  exact (k5_X9_takeRow_7 N N (CS.setL σ 0) 0)
theorem k5_X9_longSign_73 (N : Nat) (σ : CS) (x0 : Int32) (x1 : Int32) : Kp5 (CS.i σ 5) (f_X9_longSign_73 N σ x0 x1) := by
  unfold f_X9_longSign_73
  exact (kp5_ite (kp5_ite (kp5_some (rfl)) (kp5_ite (kp5_some (rfl)) (kp5_ite (kp5_some (rfl)) (kp5_some (rfl))))) (kp5_some (rfl)))
theorem k5_X9_longSign (N : Nat) (σ : CS) (x0 : Int32) (x1 : Int32) : Kp5 (CS.i σ 5) (f_X9_longSign N σ x0 x1) := by
  unfold f_X9_longSign
  exact (kp5_ite (kp5_ite (kp5_some (rfl)) (kp5_ite (kp5_some (rfl)) (kp5_ite (kp5_some (rfl)) (kp5_ite (kp5_some (rfl)) (kp5_some (rfl)))))) (kp5_ite (kp5_ite (kp5_some (rfl)) (k5_X9_longSign_73 N σ x0 x1)) (k5_X9_longSign_73 N σ x0 x1)))
theorem k5_X9_isSign (N : Nat) (σ : CS) (x0 : Int32) : Kp5 (CS.i σ 5) (f_X9_isSign N σ x0) := by
  unfold f_X9_isSign
  exact (kp5_ite (kp5_some (rfl)) (kp5_ite (kp5_some (rfl)) (kp5_ite (kp5_some (rfl)) (kp5_ite (kp5_some (rfl)) (kp5_ite (kp5_some (rfl)) (kp5_ite (kp5_some (rfl)) (kp5_ite (kp5_some (rfl)) (kp5_ite (kp5_some (rfl)) (kp5_ite (kp5_some (rfl)) (kp5_ite (kp5_some (rfl)) (kp5_ite (kp5_some (rfl)) (kp5_ite (kp5_some (rfl)) (kp5_ite (kp5_some (rfl)) (kp5_ite (kp5_some (rfl)) (kp5_ite (kp5_some (rfl)) (kp5_ite (kp5_some (rfl)) (kp5_ite (kp5_some (rfl)) (kp5_ite (kp5_some (rfl)) (kp5_ite (kp5_some (rfl)) (kp5_some (rfl)))))))))))))))))))))
theorem k5_X9_takeSign (N : Nat) (σ : CS) : Kp5 (CS.i σ 5) (f_X9_takeSign N σ) := by
  unfold f_X9_takeSign
  exact (kp5_bind (k5_X9_byteAt N σ (σ.i 42)) (fun p1 => (kp5_bind (k5_X9_byteAt N p1.2 ((p1.2.i 42) + 1)) (fun p5 => (kp5_bind (k5_X9_longSign N p5.2 p1.1 p5.1) (fun p9 => (kp5_ite (kp5_bind (k5_X9_isSign N (CS.setI (CS.setI p9.2 43 p9.1) 42 ((p9.2.i 42) + 1)) p1.1) (fun p14 => (kp5_ite (kp5_some (rfl)) (kp5_some (rfl))))) (kp5_some (rfl)))))))))
theorem k5_X9_advance_51 (N : Nat) (σ : CS) : Kp5 (CS.i σ 5) (f_X9_advance_51 N σ ) := by
  unfold f_X9_advance_51
  exact (kp5_ite (kp5_bind (k5_X9_byteAt N (CS.setI σ 44 (σ.i 42)) (σ.i 42)) (fun p3 => (kp5_bind (k5_X9_isDigit N p3.2 p3.1) (fun p7 => (kp5_ite (kp5_bind (k5_X9_byteAt N p7.2 (p7.2.i 42)) (fun p12 => (kp5_bind (k5_X9_isLetter N p12.2 p12.1) (fun p16 => (kp5_ite (kp5_bind (k5_X9_takeSign N p16.2) (fun p21 => (kp5_some (rfl)))) (kp5_bind (k5_X9_takeRow N p16.2) (fun p25 => (kp5_some (rfl))))))))) (kp5_bind (k5_X9_takeNumber N p7.2) (fun p29 => (kp5_some (rfl))))))))) (kp5_some (rfl)))
theorem kb5_X9_advance_2 (N : Nat) (K : CS → Int32 → Option (Unit × CS)) (hMK : ∀ (σ : CS) (x1 : Int32), Kp5 (CS.i σ 5) (K σ x1)) (σ : CS) (x1 : Int32) : Kp5 (CS.i σ 5) (b_X9_advance_2 N K σ x1) := by
  unfold b_X9_advance_2
  exact (kp5_ite (k5_X9_advance_51 N σ) (kp5_bind (k5_X9_byteAt N σ (σ.i 42)) (fun p33 => (kp5_ite (hMK (CS.setI p33.2 42 ((p33.2.i 42) + 1)) (x1 + 1)) (kp5_bind (k5_X9_byteAt N p33.2 (p33.2.i 42)) (fun p38 => (kp5_ite (hMK (CS.setI p38.2 42 ((p38.2.i 42) + 1)) (x1 + 1)) (k5_X9_advance_51 N p38.2))))))))
theorem k5_X9_advance_2 (N : Nat) : ∀ (n : Nat) (σ : CS) (x1 : Int32), Kp5 (CS.i σ 5) (f_X9_advance_2 N n σ x1)
  | 0, _, _ => kp5_none
  | n+1, σ, x1 => kb5_X9_advance_2 N (f_X9_advance_2 N n) (fun σ x1 => k5_X9_advance_2 N n σ x1) σ x1
theorem k5_X9_advance (N : Nat) (σ : CS) : Kp5 (CS.i σ 5) (f_X9_advance N σ) := by
  unfold f_X9_advance
  exact (k5_X9_advance_2 N N σ 0)
theorem k5_X1_skip_17 (N : Nat) (σ : CS) (x2 : Int32) : Kp5 (CS.i σ 5) (f_X1_skip_17 N σ x2) := by
  unfold f_X1_skip_17
  exact (kp5_ite (kp5_some (rfl)) kp5_none)
theorem k5_X1_skip (N : Nat) (σ : CS) (x1 : Int32) : Kp5 (CS.i σ 5) (f_X1_skip N σ x1) := by
  unfold f_X1_skip
  exact (kp5_bind (k5_X1_found N σ x1) (fun p1 => (kp5_ite (k5_X1_skip_17 N p1.2 p1.1) (kp5_bind (k5_X9_advance N p1.2) (fun p7 => (k5_X1_skip_17 N p7.2 p1.1))))))
theorem k5_X1_expect (N : Nat) (σ : CS) (x1 : Int32) : Kp5 (CS.i σ 5) (f_X1_expect N σ x1) := by
  unfold f_X1_expect
  exact (kp5_bind (k5_X1_found N σ x1) (fun p1 => (kp5_ite (kp5_bind (k5_X1_misplaced N p1.2) (fun p6 => (kp5_some (rfl)))) (kp5_bind (k5_X9_advance N p1.2) (fun p10 => (kp5_some (rfl)))))))
theorem k5_X1_open (N : Nat) (σ : CS) (x1 : Int32) : Kp5 (CS.i σ 5) (f_X1_open N σ x1) := by
  unfold f_X1_open
  exact (kp5_bind (k5_X1_found N σ x1) (fun p1 => (kp5_ite (kp5_bind (k5_X1_misplaced N p1.2) (fun p15 => (kp5_some (rfl)))) (kp5_ite (kp5_bind (k5_X9_advance N (CS.setI p1.2 34 ((p1.2.i 34) + 1))) (fun p7 => (kp5_some (rfl)))) (kp5_bind (k5_X1_fail N p1.2 6 (p1.2.i 44)) (fun p11 => (kp5_some (rfl))))))))
theorem k5_X1_close_22 (N : Nat) (σ : CS) : Kp5 (CS.i σ 5) (f_X1_close_22 N σ ) := by
  unfold f_X1_close_22
  exact (kp5_some (rfl))
theorem k5_X1_close (N : Nat) (σ : CS) (x1 : Int32) : Kp5 (CS.i σ 5) (f_X1_close N σ x1) := by
  unfold f_X1_close
  exact (kp5_bind (k5_X1_found N σ x1) (fun p1 => (kp5_ite (kp5_bind (k5_X1_misplaced N p1.2) (fun p6 => (k5_X1_close_22 N p6.2))) (kp5_bind (k5_X9_advance N p1.2) (fun p10 => (k5_X1_close_22 N p10.2))))))
theorem kb5_X1_product_6 (N : Nat) (E1 : CS → Option (Unit × CS)) (E2 : CS → Option (Int32 × CS)) (hm1 : ∀ σ, Kp5 (CS.i σ 5) (E1 σ)) (hm2 : ∀ σ, Kp5 (CS.i σ 5) (E2 σ)) (K : CS → Int32 → Option (Unit × CS)) (hMK : ∀ (σ : CS) (x1 : Int32), Kp5 (CS.i σ 5) (K σ x1)) (σ : CS) (x1 : Int32) : Kp5 (CS.i σ 5) (b_X1_product_6 N E1 E2 K σ x1) := by
  unfold b_X1_product_6
  exact (kp5_ite (kp5_some (rfl)) (kp5_bind (k5_X1_found N σ 42) (fun p6 => (kp5_ite (kp5_bind (k5_X1_found N p6.2 47) (fun p57 => (kp5_ite (kp5_bind (k5_X1_found N p57.2 37) (fun p108 => (kp5_ite (kp5_some (rfl)) (kp5_bind (k5_X1_found N p108.2 42) (fun p113 => (kp5_ite (kp5_bind (k5_X1_found N p113.2 47) (fun p118 => (kp5_ite (kp5_bind (k5_X9_advance N p118.2) (fun p123 => (kp5_bind (hm1 p123.2) (fun p127 => (kp5_bind (k5_X0_add N p127.2 11 0) (fun p131 => (hMK p131.2 (x1 + 1)))))))) (kp5_bind (k5_X9_advance N p118.2) (fun p135 => (kp5_bind (hm1 p135.2) (fun p139 => (kp5_bind (k5_X0_add N p139.2 10 0) (fun p143 => (hMK p143.2 (x1 + 1))))))))))) (kp5_bind (k5_X9_advance N p113.2) (fun p147 => (kp5_bind (hm1 p147.2) (fun p151 => (kp5_bind (k5_X0_add N p151.2 9 0) (fun p155 => (hMK p155.2 (x1 + 1)))))))))))))) (kp5_bind (k5_X1_found N p57.2 42) (fun p62 => (kp5_ite (kp5_bind (k5_X1_found N p62.2 47) (fun p67 => (kp5_ite (kp5_bind (k5_X9_advance N p67.2) (fun p72 => (kp5_bind (hm1 p72.2) (fun p76 => (kp5_bind (k5_X0_add N p76.2 11 0) (fun p80 => (hMK p80.2 (x1 + 1)))))))) (kp5_bind (k5_X9_advance N p67.2) (fun p84 => (kp5_bind (hm1 p84.2) (fun p88 => (kp5_bind (k5_X0_add N p88.2 10 0) (fun p92 => (hMK p92.2 (x1 + 1))))))))))) (kp5_bind (k5_X9_advance N p62.2) (fun p96 => (kp5_bind (hm1 p96.2) (fun p100 => (kp5_bind (k5_X0_add N p100.2 9 0) (fun p104 => (hMK p104.2 (x1 + 1)))))))))))))) (kp5_bind (k5_X1_found N p6.2 42) (fun p11 => (kp5_ite (kp5_bind (k5_X1_found N p11.2 47) (fun p16 => (kp5_ite (kp5_bind (k5_X9_advance N p16.2) (fun p21 => (kp5_bind (hm1 p21.2) (fun p25 => (kp5_bind (k5_X0_add N p25.2 11 0) (fun p29 => (hMK p29.2 (x1 + 1)))))))) (kp5_bind (k5_X9_advance N p16.2) (fun p33 => (kp5_bind (hm1 p33.2) (fun p37 => (kp5_bind (k5_X0_add N p37.2 10 0) (fun p41 => (hMK p41.2 (x1 + 1))))))))))) (kp5_bind (k5_X9_advance N p11.2) (fun p45 => (kp5_bind (hm1 p45.2) (fun p49 => (kp5_bind (k5_X0_add N p49.2 9 0) (fun p53 => (hMK p53.2 (x1 + 1)))))))))))))))
theorem k5_X1_product_6 (N : Nat) (E1 : CS → Option (Unit × CS)) (E2 : CS → Option (Int32 × CS)) (hm1 : ∀ σ, Kp5 (CS.i σ 5) (E1 σ)) (hm2 : ∀ σ, Kp5 (CS.i σ 5) (E2 σ)) : ∀ (n : Nat) (σ : CS) (x1 : Int32), Kp5 (CS.i σ 5) (f_X1_product_6 N E1 E2 n σ x1)
  | 0, _, _ => kp5_none
  | n+1, σ, x1 => kb5_X1_product_6 N E1 E2 hm1 hm2 (f_X1_product_6 N E1 E2 n) (fun σ x1 => k5_X1_product_6 N E1 E2 hm1 hm2 n σ x1) σ x1
theorem k5_X1_product (N : Nat) (E1 : CS → Option (Unit × CS)) (E2 : CS → Option (Int32 × CS)) (hm1 : ∀ σ, Kp5 (CS.i σ 5) (E1 σ)) (hm2 : ∀ σ, Kp5 (CS.i σ 5) (E2 σ)) (σ : CS) : Kp5 (CS.i σ 5) (f_X1_product N E1 E2 σ) := by
  unfold f_X1_product
  exact (kp5_bind (hm1 σ) (fun p1 => (k5_X1_product_6 N E1 E2 hm1 hm2 N p1.2 0)))
theorem kb5_X1_expression_6 (N : Nat) (E1 : CS → Option (Unit × CS)) (E2 : CS → Option (Int32 × CS)) (hm1 : ∀ σ, Kp5 (CS.i σ 5) (E1 σ)) (hm2 : ∀ σ, Kp5 (CS.i σ 5) (E2 σ)) (K : CS → Int32 → Option (Unit × CS)) (hMK : ∀ (σ : CS) (x1 : Int32), Kp5 (CS.i σ 5) (K σ x1)) (σ : CS) (x1 : Int32) : Kp5 (CS.i σ 5) (b_X1_expression_6 N E1 E2 K σ x1) := by
  unfold b_X1_expression_6
  exact (kp5_ite (kp5_some (rfl)) (kp5_bind (k5_X1_found N σ 43) (fun p6 => (kp5_ite (kp5_bind (k5_X1_found N p6.2 45) (fun p40 => (kp5_ite (kp5_some (rfl)) (kp5_bind (k5_X1_found N p40.2 43) (fun p45 => (kp5_ite (kp5_bind (k5_X9_advance N p45.2) (fun p50 => (kp5_bind (k5_X1_product N E1 E2 hm1 hm2 p50.2) (fun p54 => (kp5_bind (k5_X0_add N p54.2 8 0) (fun p58 => (hMK p58.2 (x1 + 1)))))))) (kp5_bind (k5_X9_advance N p45.2) (fun p62 => (kp5_bind (k5_X1_product N E1 E2 hm1 hm2 p62.2) (fun p66 => (kp5_bind (k5_X0_add N p66.2 7 0) (fun p70 => (hMK p70.2 (x1 + 1)))))))))))))) (kp5_bind (k5_X1_found N p6.2 43) (fun p11 => (kp5_ite (kp5_bind (k5_X9_advance N p11.2) (fun p16 => (kp5_bind (k5_X1_product N E1 E2 hm1 hm2 p16.2) (fun p20 => (kp5_bind (k5_X0_add N p20.2 8 0) (fun p24 => (hMK p24.2 (x1 + 1)))))))) (kp5_bind (k5_X9_advance N p11.2) (fun p28 => (kp5_bind (k5_X1_product N E1 E2 hm1 hm2 p28.2) (fun p32 => (kp5_bind (k5_X0_add N p32.2 7 0) (fun p36 => (hMK p36.2 (x1 + 1)))))))))))))))
theorem k5_X1_expression_6 (N : Nat) (E1 : CS → Option (Unit × CS)) (E2 : CS → Option (Int32 × CS)) (hm1 : ∀ σ, Kp5 (CS.i σ 5) (E1 σ)) (hm2 : ∀ σ, Kp5 (CS.i σ 5) (E2 σ)) : ∀ (n : Nat) (σ : CS) (x1 : Int32), Kp5 (CS.i σ 5) (f_X1_expression_6 N E1 E2 n σ x1)
  | 0, _, _ => kp5_none
  | n+1, σ, x1 => kb5_X1_expression_6 N E1 E2 hm1 hm2 (f_X1_expression_6 N E1 E2 n) (fun σ x1 => k5_X1_expression_6 N E1 E2 hm1 hm2 n σ x1) σ x1
theorem k5_X1_expression (N : Nat) (E1 : CS → Option (Unit × CS)) (E2 : CS → Option (Int32 × CS)) (hm1 : ∀ σ, Kp5 (CS.i σ 5) (E1 σ)) (hm2 : ∀ σ, Kp5 (CS.i σ 5) (E2 σ)) (σ : CS) : Kp5 (CS.i σ 5) (f_X1_expression N E1 E2 σ) := by
  unfold f_X1_expression
  exact (kp5_bind (k5_X1_product N E1 E2 hm1 hm2 σ) (fun p1 => (k5_X1_expression_6 N E1 E2 hm1 hm2 N p1.2 0)))
theorem k5_X4_find_38 (N : Nat) (σ : CS) : Kp5 (CS.i σ 5) (f_X4_find_38 N σ ) := by
  unfold f_X4_find_38
  exact (kp5_some (rfl))
theorem kb5_X4_find_2 (N : Nat) (K : CS → Int64 → Int32 → Option (Int32 × CS)) (hMK : ∀ (σ : CS) (x1 : Int64) (x3 : Int32), Kp5 (CS.i σ 5) (K σ x1 x3)) (σ : CS) (x1 : Int64) (x3 : Int32) : Kp5 (CS.i σ 5) (b_X4_find_2 N K σ x1 x3) := by
  unfold b_X4_find_2
  exact (kp5_ite (k5_X4_find_38 N σ) (kp5_ite (k5_X4_find_38 N σ) (kp5_ite (kp5_ite (kp5_some (rfl)) (hMK σ x1 (x3 + 1))) kp5_none)))
theorem k5_X4_find_2 (N : Nat) : ∀ (n : Nat) (σ : CS) (x1 : Int64) (x3 : Int32), Kp5 (CS.i σ 5) (f_X4_find_2 N n σ x1 x3)
  | 0, _, _, _ => kp5_none
  | n+1, σ, x1, x3 => kb5_X4_find_2 N (f_X4_find_2 N n) (fun σ x1 x3 => k5_X4_find_2 N n σ x1 x3) σ x1 x3
theorem k5_X4_find (N : Nat) (σ : CS) (x1 : Int64) : Kp5 (CS.i σ 5) (f_X4_find N σ x1) := by
  unfold f_X4_find
  exact (k5_X4_find_2 N N σ x1 0)
theorem k5_X4_cellOf (N : Nat) (σ : CS) (x1 : Int32) : Kp5 (CS.i σ 5) (f_X4_cellOf N σ x1) := by
  unfold f_X4_cellOf
  exact (kp5_some (rfl))
theorem k5_X1_loadName (N : Nat) (σ : CS) : Kp5 (CS.i σ 5) (f_X1_loadName N σ) := by
  unfold f_X1_loadName
  exact (kp5_bind (k5_X4_find N σ σ.l) (fun p1 => (kp5_ite (kp5_bind (k5_X4_cellOf N p1.2 p1.1) (fun p6 => (kp5_bind (k5_X0_add N p6.2 1 p6.1) (fun p10 => (kp5_bind (k5_X9_advance N p10.2) (fun p14 => (kp5_some (rfl)))))))) (kp5_bind (k5_X1_fail N p1.2 3 (p1.2.i 44)) (fun p18 => (kp5_some (rfl)))))))
theorem k5_X1_negated_17 (N : Nat) (E1 : CS → Option (Unit × CS)) (E2 : CS → Option (Int32 × CS)) (hm1 : ∀ σ, Kp5 (CS.i σ 5) (E1 σ)) (hm2 : ∀ σ, Kp5 (CS.i σ 5) (E2 σ)) (σ : CS) : Kp5 (CS.i σ 5) (f_X1_negated_17 N E1 E2 σ ) := by
  unfold f_X1_negated_17
  exact (kp5_bind (k5_X0_add N (CS.setI σ 34 ((σ.i 34) - 1)) 4 0) (fun p6 => (kp5_some (rfl))))
theorem k5_X1_negated (N : Nat) (E1 : CS → Option (Unit × CS)) (E2 : CS → Option (Int32 × CS)) (hm1 : ∀ σ, Kp5 (CS.i σ 5) (E1 σ)) (hm2 : ∀ σ, Kp5 (CS.i σ 5) (E2 σ)) (σ : CS) : Kp5 (CS.i σ 5) (f_X1_negated N E1 E2 σ) := by
  unfold f_X1_negated
  exact (kp5_bind (k5_X1_open N σ 45) (fun p1 => (kp5_ite (kp5_bind (hm1 p1.2) (fun p10 => (k5_X1_negated_17 N E1 E2 hm1 hm2 p10.2))) (k5_X1_negated_17 N E1 E2 hm1 hm2 p1.2))))
theorem k5_X1_caseNumber_44 (N : Nat) (σ : CS) (x1 : Int32) (x2 : Int32) (x4 : Int32) : Kp5 (CS.i σ 5) (f_X1_caseNumber_44 N σ x1 x2 x4) := by
  unfold f_X1_caseNumber_44
  exact (kp5_bind (k5_X0_hasCase N σ x1 x4) (fun p11 => (kp5_ite (kp5_bind (k5_X0_addCase N p11.2 x4 x2) (fun p16 => (kp5_bind (k5_X9_advance N p16.2) (fun p20 => (kp5_some (rfl)))))) (kp5_bind (k5_X1_fail N p11.2 4 (p11.2.i 44)) (fun p24 => (kp5_some (rfl)))))))
theorem k5_X1_caseNumber (N : Nat) (σ : CS) (x1 : Int32) (x2 : Int32) : Kp5 (CS.i σ 5) (f_X1_caseNumber N σ x1 x2) := by
  unfold f_X1_caseNumber
  exact (kp5_bind (k5_X1_skip N σ 45) (fun p1 => (kp5_bind (k5_X1_found N p1.2 1) (fun p5 => (kp5_ite (kp5_bind (k5_X1_misplaced N p5.2) (fun p28 => (kp5_some (rfl)))) (kp5_ite (k5_X1_caseNumber_44 N p5.2 x1 x2 (p5.2.i 45)) (k5_X1_caseNumber_44 N p5.2 x1 x2 (-(p5.2.i 45)))))))))
theorem k5_X5_init (N : Nat) (σ : CS) (x0 : Nat) : Kp5 (CS.i σ 5) (f_X5_init N σ x0) := by
  unfold f_X5_init
  exact (kp5_some (rfl))
theorem k5_X6_push_48 (N : Nat) (σ : CS) (x1 : Int32) (x2 : Int32) (x3 : Int32) (x4 : Int32) (x5 : Nat) : Kp5 (CS.i σ 5) (f_X6_push_48 N σ x1 x2 x3 x4 x5) := by
  unfold f_X6_push_48
  exact (kp5_ite (kp5_some (rfl)) kp5_none)
theorem k5_X6_push (N : Nat) (σ : CS) (x1 : Int32) (x2 : Int32) (x3 : Int32) : Kp5 (CS.i σ 5) (f_X6_push N σ x1 x2 x3) := by
  unfold f_X6_push
  exact (kp5_ite (kp5_oc (kp5_le (rfl) (kp5_bind (k5_X5_init N (CS.new σ 0) (CS.hs σ)) (fun p5 => (kp5_ite (kp5_ite (k5_X6_push_48 N (CS.setR p5.2 51 (((if (399 : Int32) < (σ.i 53) then (399 : Int32) else (σ.i 53)) : Int32).toNatClampNeg) (some (CS.hs σ))) x1 x2 x3 (if (399 : Int32) < (σ.i 53) then (399 : Int32) else (σ.i 53)) (CS.hs σ)) kp5_none) kp5_none)))) (fun a3 => (k5_X6_push_48 N σ x1 x2 x3 (if (399 : Int32) < (σ.i 53) then (399 : Int32) else (σ.i 53)) a3))) kp5_none)
theorem k5_X6_row_30 (N : Nat) (σ : CS) : Kp5 (CS.i σ 5) (f_X6_row_30 N σ ) := by
  unfold f_X6_row_30
  exact (kp5_some (rfl))
theorem k5_X6_row (N : Nat) (σ : CS) (x1 : Int32) : Kp5 (CS.i σ 5) (f_X6_row N σ x1) := by
  unfold f_X6_row
  exact (kp5_ite (k5_X6_row_30 N σ) (kp5_ite (k5_X6_row_30 N σ) (kp5_ite (k5_X6_row_30 N σ) (kp5_ite (kp5_oc (kp5_some (rfl)) (fun a6 => (kp5_some (rfl)))) kp5_none))))
theorem k5_X5_isLoop_40 (N : Nat) (σ : CS) : Kp5 (CS.i σ 5) (f_X5_isLoop_40 N σ ) := by
  unfold f_X5_isLoop_40
  exact (kp5_some (rfl))
theorem k5_X5_isLoop (N : Nat) (σ : CS) (x0 : Nat) : Kp5 (CS.i σ 5) (f_X5_isLoop N σ x0) := by
  unfold f_X5_isLoop
  exact (kp5_ite (kp5_ite (k5_X5_isLoop_40 N σ) (kp5_ite (k5_X5_isLoop_40 N σ) (kp5_ite (k5_X5_isLoop_40 N σ) (kp5_ite (k5_X5_isLoop_40 N σ) (kp5_some (rfl)))))) kp5_none)
theorem k5_X5_hasOneBody_37 (N : Nat) (σ : CS) : Kp5 (CS.i σ 5) (f_X5_hasOneBody_37 N σ ) := by
  unfold f_X5_hasOneBody_37
  exact (kp5_some (rfl))
theorem k5_X5_hasOneBody (N : Nat) (σ : CS) (x0 : Nat) : Kp5 (CS.i σ 5) (f_X5_hasOneBody N σ x0) := by
  unfold f_X5_hasOneBody
  exact (kp5_ite (kp5_bind (k5_X5_isLoop N σ x0) (fun p3 => (kp5_ite (kp5_ite (kp5_ite (k5_X5_hasOneBody_37 N p3.2) (kp5_ite (k5_X5_hasOneBody_37 N p3.2) (kp5_ite (k5_X5_hasOneBody_37 N p3.2) (kp5_some (rfl))))) kp5_none) (k5_X5_hasOneBody_37 N p3.2)))) kp5_none)
theorem k5_X6_pop (N : Nat) (σ : CS) : Kp5 (CS.i σ 5) (f_X6_pop N σ) := by
  unfold f_X6_pop
  exact (kp5_some (rfl))
theorem k5_X7_endIf (N : Nat) (σ : CS) (x1 : Nat) : Kp5 (CS.i σ 5) (f_X7_endIf N σ x1) := by
  unfold f_X7_endIf
  exact (kp5_bind (k5_X1_skip N σ 204) (fun p1 => (kp5_ite (kp5_ite (kp5_bind (k5_X0_aim N p1.2 (CS.o p1.2 x1 10)) (fun p23 => (kp5_bind (k5_X6_pop N (CS.setI p23.2 36 1)) (fun p27 => (kp5_some (rfl)))))) kp5_none) (kp5_ite (kp5_ite (kp5_bind (k5_X0_newTarget N (CS.setO (CS.setO (CS.setO p1.2 x1 0 204) x1 5 0) x1 6 (p1.2.i 36))) (fun p8 => (kp5_ite (kp5_bind (k5_X0_add N (CS.setO p8.2 x1 9 p8.1) 30 (CS.o (CS.setO p8.2 x1 9 p8.1) x1 9)) (fun p13 => (kp5_ite (kp5_bind (k5_X0_aim N p13.2 (CS.o p13.2 x1 10)) (fun p18 => (kp5_some (rfl)))) kp5_none))) kp5_none))) kp5_none) kp5_none))))
theorem k5_X6_jumpTo (N : Nat) (σ : CS) (x0 : Nat) (x1 : Int32) : Kp5 (CS.i σ 5) (f_X6_jumpTo N σ x0 x1) := by
  unfold f_X6_jumpTo
  exact (kp5_ite (kp5_ite (kp5_some (rfl)) (kp5_some (rfl))) kp5_none)
theorem kb5_X6_isGoneTo_5 (N : Nat) (K : CS → Nat → Int32 → Int32 → Option (Int32 × CS)) (hMK : ∀ (σ : CS) (x1 : Nat) (x2 : Int32) (x3 : Int32), Kp5 (CS.i σ 5) (K σ x1 x2 x3)) (σ : CS) (x1 : Nat) (x2 : Int32) (x3 : Int32) : Kp5 (CS.i σ 5) (b_X6_isGoneTo_5 N K σ x1 x2 x3) := by
  unfold b_X6_isGoneTo_5
  exact (kp5_ite (kp5_some (rfl)) (kp5_bind (k5_X6_jumpTo N σ x1 x2) (fun p4 => (kp5_ite (kp5_some (rfl)) (hMK p4.2 x1 x2 (x3 + 1))))))
theorem k5_X6_isGoneTo_5 (N : Nat) : ∀ (n : Nat) (σ : CS) (x1 : Nat) (x2 : Int32) (x3 : Int32), Kp5 (CS.i σ 5) (f_X6_isGoneTo_5 N n σ x1 x2 x3)
  | 0, _, _, _, _ => kp5_none
  | n+1, σ, x1, x2, x3 => kb5_X6_isGoneTo_5 N (f_X6_isGoneTo_5 N n) (fun σ x1 x2 x3 => k5_X6_isGoneTo_5 N n σ x1 x2 x3) σ x1 x2 x3
theorem k5_X6_isGoneTo (N : Nat) (σ : CS) (x1 : Nat) (x2 : Int32) : Kp5 (CS.i σ 5) (f_X6_isGoneTo N σ x1 x2) := by
  unfold f_X6_isGoneTo
  exact (kp5_ite (k5_X6_isGoneTo_5 N N σ x1 x2 (CS.o σ x1 14)) kp5_none)
theorem k5_X1_conjunction_65 (N : Nat) (E1 : CS → Option (Unit × CS)) (E2 : CS → Option (Int32 × CS)) (hm1 : ∀ σ, Kp5 (CS.i σ 5) (E1 σ)) (hm2 : ∀ σ, Kp5 (CS.i σ 5) (E2 σ)) (σ : CS) (x2 : Int32) : Kp5 (CS.i σ 5) (f_X1_conjunction_65 N E1 E2 σ x2) := by
  unfold f_X1_conjunction_65
  exact (kp5_bind (k5_X0_aim N σ x2) (fun p15 => (kp5_some (rfl))))
theorem kb5_X1_conjunction_27 (N : Nat) (E1 : CS → Option (Unit × CS)) (E2 : CS → Option (Int32 × CS)) (hm1 : ∀ σ, Kp5 (CS.i σ 5) (E1 σ)) (hm2 : ∀ σ, Kp5 (CS.i σ 5) (E2 σ)) (K : CS → Int32 → Int32 → Option (Int32 × CS)) (hMK : ∀ (σ : CS) (x2 : Int32) (x3 : Int32), Kp5 (CS.i σ 5) (K σ x2 x3)) (σ : CS) (x2 : Int32) (x3 : Int32) : Kp5 (CS.i σ 5) (b_X1_conjunction_27 N E1 E2 K σ x2 x3) := by
  unfold b_X1_conjunction_27
  exact (kp5_ite (k5_X1_conjunction_65 N E1 E2 hm1 hm2 σ x2) (kp5_bind (k5_X1_skip N σ 132) (fun p19 => (kp5_ite (k5_X1_conjunction_65 N E1 E2 hm1 hm2 p19.2 x2) (kp5_bind (k5_X0_add N p19.2 32 x2) (fun p24 => (kp5_bind (hm2 p24.2) (fun p28 => (hMK p28.2 x2 (x3 + 1))))))))))
theorem k5_X1_conjunction_27 (N : Nat) (E1 : CS → Option (Unit × CS)) (E2 : CS → Option (Int32 × CS)) (hm1 : ∀ σ, Kp5 (CS.i σ 5) (E1 σ)) (hm2 : ∀ σ, Kp5 (CS.i σ 5) (E2 σ)) : ∀ (n : Nat) (σ : CS) (x2 : Int32) (x3 : Int32), Kp5 (CS.i σ 5) (f_X1_conjunction_27 N E1 E2 n σ x2 x3)
  | 0, _, _, _ => kp5_none
  | n+1, σ, x2, x3 => kb5_X1_conjunction_27 N E1 E2 hm1 hm2 (f_X1_conjunction_27 N E1 E2 n) (fun σ x2 x3 => k5_X1_conjunction_27 N E1 E2 hm1 hm2 n σ x2 x3) σ x2 x3
theorem k5_X1_conjunction (N : Nat) (E1 : CS → Option (Unit × CS)) (E2 : CS → Option (Int32 × CS)) (hm1 : ∀ σ, Kp5 (CS.i σ 5) (E1 σ)) (hm2 : ∀ σ, Kp5 (CS.i σ 5) (E2 σ)) (σ : CS) : Kp5 (CS.i σ 5) (f_X1_conjunction N E1 E2 σ) := by
  unfold f_X1_conjunction
  exact (kp5_bind (hm2 σ) (fun p1 => (kp5_bind (k5_X1_found N p1.2 132) (fun p5 => (kp5_ite (kp5_ite (kp5_some (rfl)) kp5_none) (kp5_bind (k5_X0_newTarget N p5.2) (fun p10 => (k5_X1_conjunction_27 N E1 E2 hm1 hm2 N p10.2 p10.1 0))))))))
theorem k5_X1_condition_65 (N : Nat) (E1 : CS → Option (Unit × CS)) (E2 : CS → Option (Int32 × CS)) (hm1 : ∀ σ, Kp5 (CS.i σ 5) (E1 σ)) (hm2 : ∀ σ, Kp5 (CS.i σ 5) (E2 σ)) (σ : CS) (x2 : Int32) : Kp5 (CS.i σ 5) (f_X1_condition_65 N E1 E2 σ x2) := by
  unfold f_X1_condition_65
  exact (kp5_bind (k5_X0_aim N σ x2) (fun p15 => (kp5_some (rfl))))
theorem kb5_X1_condition_27 (N : Nat) (E1 : CS → Option (Unit × CS)) (E2 : CS → Option (Int32 × CS)) (hm1 : ∀ σ, Kp5 (CS.i σ 5) (E1 σ)) (hm2 : ∀ σ, Kp5 (CS.i σ 5) (E2 σ)) (K : CS → Int32 → Int32 → Option (Int32 × CS)) (hMK : ∀ (σ : CS) (x2 : Int32) (x3 : Int32), Kp5 (CS.i σ 5) (K σ x2 x3)) (σ : CS) (x2 : Int32) (x3 : Int32) : Kp5 (CS.i σ 5) (b_X1_condition_27 N E1 E2 K σ x2 x3) := by
  unfold b_X1_condition_27
  exact (kp5_ite (k5_X1_condition_65 N E1 E2 hm1 hm2 σ x2) (kp5_bind (k5_X1_skip N σ 133) (fun p19 => (kp5_ite (k5_X1_condition_65 N E1 E2 hm1 hm2 p19.2 x2) (kp5_bind (k5_X0_add N p19.2 33 x2) (fun p24 => (kp5_bind (k5_X1_conjunction N E1 E2 hm1 hm2 p24.2) (fun p28 => (hMK p28.2 x2 (x3 + 1))))))))))
theorem k5_X1_condition_27 (N : Nat) (E1 : CS → Option (Unit × CS)) (E2 : CS → Option (Int32 × CS)) (hm1 : ∀ σ, Kp5 (CS.i σ 5) (E1 σ)) (hm2 : ∀ σ, Kp5 (CS.i σ 5) (E2 σ)) : ∀ (n : Nat) (σ : CS) (x2 : Int32) (x3 : Int32), Kp5 (CS.i σ 5) (f_X1_condition_27 N E1 E2 n σ x2 x3)
  | 0, _, _, _ => kp5_none
  | n+1, σ, x2, x3 => kb5_X1_condition_27 N E1 E2 hm1 hm2 (f_X1_condition_27 N E1 E2 n) (fun σ x2 x3 => k5_X1_condition_27 N E1 E2 hm1 hm2 n σ x2 x3) σ x2 x3
theorem k5_X1_condition (N : Nat) (E1 : CS → Option (Unit × CS)) (E2 : CS → Option (Int32 × CS)) (hm1 : ∀ σ, Kp5 (CS.i σ 5) (E1 σ)) (hm2 : ∀ σ, Kp5 (CS.i σ 5) (E2 σ)) (σ : CS) : Kp5 (CS.i σ 5) (f_X1_condition N E1 E2 σ) := by
  unfold f_X1_condition
  exact (kp5_bind (k5_X1_conjunction N E1 E2 hm1 hm2 σ) (fun p1 => (kp5_bind (k5_X1_found N p1.2 133) (fun p5 => (kp5_ite (kp5_ite (kp5_some (rfl)) kp5_none) (kp5_bind (k5_X0_newTarget N p5.2) (fun p10 => (k5_X1_condition_27 N E1 E2 hm1 hm2 N p10.2 p10.1 0))))))))
theorem k5_X7_conditionInside (N : Nat) (E1 : CS → Option (Unit × CS)) (E2 : CS → Option (Int32 × CS)) (hm1 : ∀ σ, Kp5 (CS.i σ 5) (E1 σ)) (hm2 : ∀ σ, Kp5 (CS.i σ 5) (E2 σ)) (σ : CS) : Kp5 (CS.i σ 5) (f_X7_conditionInside N E1 E2 σ) := by
  unfold f_X7_conditionInside
  exact (kp5_bind (k5_X1_open N σ 40) (fun p1 => (kp5_bind (k5_X1_condition N E1 E2 hm1 hm2 p1.2) (fun p5 => (kp5_bind (k5_X1_close N p5.2 41) (fun p9 => (kp5_ite (kp5_some (rfl)) kp5_none)))))))
theorem k5_X7_endDo_25 (N : Nat) (E1 : CS → Option (Unit × CS)) (E2 : CS → Option (Int32 × CS)) (hm1 : ∀ σ, Kp5 (CS.i σ 5) (E1 σ)) (hm2 : ∀ σ, Kp5 (CS.i σ 5) (E2 σ)) (σ : CS) (x1 : Nat) (x2 : Int32) : Kp5 (CS.i σ 5) (f_X7_endDo_25 N E1 E2 σ x1 x2) := by
  unfold f_X7_endDo_25
  exact (kp5_bind (k5_X1_expect N σ 205) (fun p2 => (kp5_ite (kp5_bind (k5_X0_aim N p2.2 (CS.o p2.2 x1 10)) (fun p7 => (kp5_bind (k5_X7_conditionInside N E1 E2 hm1 hm2 p7.2) (fun p11 => (kp5_bind (k5_X1_expect N p11.2 59) (fun p15 => (kp5_ite (kp5_bind (k5_X0_add N p15.2 31 (CS.o p15.2 x1 9)) (fun p20 => (kp5_ite (kp5_bind (k5_X0_add N p20.2 30 (CS.o p20.2 x1 11)) (fun p25 => (kp5_ite (kp5_bind (k5_X0_aim N p25.2 (CS.o p25.2 x1 9)) (fun p30 => (kp5_ite (kp5_bind (k5_X6_isGoneTo N p30.2 x1 0) (fun p35 => (kp5_ite (kp5_some (rfl)) (kp5_some (rfl))))) (kp5_ite (kp5_some (rfl)) (kp5_bind (k5_X6_isGoneTo N p30.2 x1 0) (fun p41 => (kp5_ite (kp5_some (rfl)) (kp5_some (rfl))))))))) kp5_none))) kp5_none))) kp5_none))))))) kp5_none)))
theorem k5_X7_endDo_19 (N : Nat) (E1 : CS → Option (Unit × CS)) (E2 : CS → Option (Int32 × CS)) (hm1 : ∀ σ, Kp5 (CS.i σ 5) (E1 σ)) (hm2 : ∀ σ, Kp5 (CS.i σ 5) (E2 σ)) (σ : CS) (x1 : Nat) : Kp5 (CS.i σ 5) (f_X7_endDo_19 N E1 E2 σ x1) := by
  unfold f_X7_endDo_19
  exact (k5_X7_endDo_25 N E1 E2 hm1 hm2 σ x1 1)
theorem k5_X7_endDo (N : Nat) (E1 : CS → Option (Unit × CS)) (E2 : CS → Option (Int32 × CS)) (hm1 : ∀ σ, Kp5 (CS.i σ 5) (E1 σ)) (hm2 : ∀ σ, Kp5 (CS.i σ 5) (E2 σ)) (σ : CS) (x1 : Nat) : Kp5 (CS.i σ 5) (f_X7_endDo N E1 E2 σ x1) := by
  unfold f_X7_endDo
  exact (kp5_ite (kp5_bind (k5_X6_isGoneTo N σ x1 1) (fun p46 => (kp5_ite (k5_X7_endDo_25 N E1 E2 hm1 hm2 p46.2 x1 0) (k5_X7_endDo_19 N E1 E2 hm1 hm2 p46.2 x1)))) (k5_X7_endDo_19 N E1 E2 hm1 hm2 σ x1))
theorem k5_X7_endBody_193 (N : Nat) (E1 : CS → Option (Unit × CS)) (E2 : CS → Option (Int32 × CS)) (hm1 : ∀ σ, Kp5 (CS.i σ 5) (E1 σ)) (hm2 : ∀ σ, Kp5 (CS.i σ 5) (E2 σ)) (σ : CS) (x1 : Nat) : Kp5 (CS.i σ 5) (f_X7_endBody_193 N E1 E2 σ x1) := by
  unfold f_X7_endBody_193
  exact (kp5_ite (kp5_bind (k5_X6_pop N (CS.setI σ 50 (CS.o σ x1 3))) (fun p14 => (kp5_some (rfl)))) kp5_none)
theorem k5_X7_endBody_88 (N : Nat) (E1 : CS → Option (Unit × CS)) (E2 : CS → Option (Int32 × CS)) (hm1 : ∀ σ, Kp5 (CS.i σ 5) (E1 σ)) (hm2 : ∀ σ, Kp5 (CS.i σ 5) (E2 σ)) (σ : CS) (x1 : Nat) : Kp5 (CS.i σ 5) (f_X7_endBody_88 N E1 E2 σ x1) := by
  unfold f_X7_endBody_88
  exact (k5_X7_endBody_193 N E1 E2 hm1 hm2 σ x1)
theorem k5_X7_endBody_130 (N : Nat) (E1 : CS → Option (Unit × CS)) (E2 : CS → Option (Int32 × CS)) (hm1 : ∀ σ, Kp5 (CS.i σ 5) (E1 σ)) (hm2 : ∀ σ, Kp5 (CS.i σ 5) (E2 σ)) (σ : CS) (x1 : Nat) : Kp5 (CS.i σ 5) (f_X7_endBody_130 N E1 E2 σ x1) := by
  unfold f_X7_endBody_130
  exact (k5_X7_endBody_193 N E1 E2 hm1 hm2 σ x1)
theorem k5_X7_endBody (N : Nat) (E1 : CS → Option (Unit × CS)) (E2 : CS → Option (Int32 × CS)) (hm1 : ∀ σ, Kp5 (CS.i σ 5) (E1 σ)) (hm2 : ∀ σ, Kp5 (CS.i σ 5) (E2 σ)) (σ : CS) (x1 : Nat) : Kp5 (CS.i σ 5) (f_X7_endBody N E1 E2 σ x1) := by
  unfold f_X7_endBody
  exact (kp5_ite (kp5_ite (kp5_bind (k5_X7_endIf N σ x1) (fun p3 => (kp5_some (rfl)))) (kp5_ite (kp5_bind (k5_X0_aim N σ (CS.o σ x1 9)) (fun p8 => (kp5_ite (kp5_ite (kp5_ite (k5_X7_endBody_88 N E1 E2 hm1 hm2 (CS.setI p8.2 36 0) x1) (k5_X7_endBody_88 N E1 E2 hm1 hm2 (CS.setI p8.2 36 1) x1)) kp5_none) (k5_X7_endBody_88 N E1 E2 hm1 hm2 (CS.setI p8.2 36 1) x1)))) (kp5_ite (kp5_bind (k5_X7_endDo N E1 E2 hm1 hm2 σ x1) (fun p21 => (k5_X7_endBody_193 N E1 E2 hm1 hm2 p21.2 x1))) (kp5_ite (kp5_bind (k5_X0_aim N σ (CS.o σ x1 9)) (fun p26 => (kp5_ite (kp5_bind (k5_X6_isGoneTo N p26.2 x1 0) (fun p31 => (kp5_ite (k5_X7_endBody_130 N E1 E2 hm1 hm2 (CS.setI p31.2 36 0) x1) (k5_X7_endBody_130 N E1 E2 hm1 hm2 (CS.setI p31.2 36 1) x1)))) (k5_X7_endBody_130 N E1 E2 hm1 hm2 (CS.setI p26.2 36 1) x1)))) (kp5_bind (k5_X0_add N σ 30 (CS.o σ x1 10)) (fun p36 => (kp5_ite (kp5_bind (k5_X0_aim N p36.2 (CS.o p36.2 x1 9)) (fun p41 => (kp5_ite (kp5_ite (k5_X7_endBody_193 N E1 E2 hm1 hm2 (CS.setI p41.2 36 1) x1) (kp5_bind (k5_X6_isGoneTo N p41.2 x1 0) (fun p47 => (kp5_ite (k5_X7_endBody_193 N E1 E2 hm1 hm2 (CS.setI p47.2 36 0) x1) (k5_X7_endBody_193 N E1 E2 hm1 hm2 (CS.setI p47.2 36 1) x1))))) kp5_none))) kp5_none))))))) kp5_none)
theorem k5_X7_notReached (N : Nat) (σ : CS) (x1 : Int32) : Kp5 (CS.i σ 5) (f_X7_notReached N σ x1) := by
  unfold f_X7_notReached
  exact (kp5_ite (kp5_some (rfl)) (kp5_some (rfl)))
theorem k5_X4_isCaught (N : Nat) (σ : CS) (x1 : Int32) : Kp5 (CS.i σ 5) (f_X4_isCaught N σ x1) := by
  unfold f_X4_isCaught
  exact (kp5_ite (kp5_some (rfl)) (kp5_some (rfl)))
theorem k5_X7_change_63 (N : Nat) (E1 : CS → Option (Unit × CS)) (E2 : CS → Option (Int32 × CS)) (hm1 : ∀ σ, Kp5 (CS.i σ 5) (E1 σ)) (hm2 : ∀ σ, Kp5 (CS.i σ 5) (E2 σ)) (σ : CS) (x3 : Int32) : Kp5 (CS.i σ 5) (f_X7_change_63 N E1 E2 σ x3) := by
  unfold f_X7_change_63
  exact (kp5_bind (k5_X1_fail N σ 3 x3) (fun p11 => (kp5_some (rfl))))
theorem k5_X7_change_72 (N : Nat) (E1 : CS → Option (Unit × CS)) (E2 : CS → Option (Int32 × CS)) (hm1 : ∀ σ, Kp5 (CS.i σ 5) (E1 σ)) (hm2 : ∀ σ, Kp5 (CS.i σ 5) (E2 σ)) (σ : CS) (x5 : Int32) (x6 : Int32) : Kp5 (CS.i σ 5) (f_X7_change_72 N E1 E2 σ x5 x6) := by
  unfold f_X7_change_72
  exact (kp5_ite (kp5_bind (k5_X1_misplaced N σ) (fun p46 => (kp5_some (rfl)))) (kp5_bind (k5_X1_skip N σ 135) (fun p17 => (kp5_ite (kp5_bind (k5_X9_advance N p17.2) (fun p22 => (kp5_bind (k5_X1_expression N E1 E2 hm1 hm2 p22.2) (fun p26 => (kp5_bind (k5_X4_cellOf N p26.2 x5) (fun p30 => (kp5_bind (k5_X0_add N p30.2 2 p30.1) (fun p34 => (kp5_some (rfl)))))))))) (kp5_bind (k5_X4_cellOf N p17.2 x5) (fun p38 => (kp5_bind (k5_X0_add N p38.2 3 p38.1) (fun p42 => (kp5_some (rfl))))))))))
theorem k5_X7_change_41 (N : Nat) (E1 : CS → Option (Unit × CS)) (E2 : CS → Option (Int32 × CS)) (hm1 : ∀ σ, Kp5 (CS.i σ 5) (E1 σ)) (hm2 : ∀ σ, Kp5 (CS.i σ 5) (E2 σ)) (σ : CS) (x3 : Int32) (x5 : Int32) (x6 : Int32) : Kp5 (CS.i σ 5) (f_X7_change_41 N E1 E2 σ x3 x5 x6) := by
  unfold f_X7_change_41
  exact (kp5_ite (k5_X7_change_63 N E1 E2 hm1 hm2 σ x3) (kp5_ite (k5_X7_change_72 N E1 E2 hm1 hm2 σ x5 x6) (kp5_bind (k5_X4_isCaught N σ x5) (fun p50 => (kp5_ite (k5_X7_change_72 N E1 E2 hm1 hm2 p50.2 x5 x6) (k5_X7_change_63 N E1 E2 hm1 hm2 p50.2 x3))))))
theorem k5_X7_change_34 (N : Nat) (E1 : CS → Option (Unit × CS)) (E2 : CS → Option (Int32 × CS)) (hm1 : ∀ σ, Kp5 (CS.i σ 5) (E1 σ)) (hm2 : ∀ σ, Kp5 (CS.i σ 5) (E2 σ)) (σ : CS) (x3 : Int32) (x5 : Int32) : Kp5 (CS.i σ 5) (f_X7_change_34 N E1 E2 σ x3 x5) := by
  unfold f_X7_change_34
  exact (k5_X7_change_41 N E1 E2 hm1 hm2 σ x3 x5 1)
theorem k5_X7_change_38 (N : Nat) (E1 : CS → Option (Unit × CS)) (E2 : CS → Option (Int32 × CS)) (hm1 : ∀ σ, Kp5 (CS.i σ 5) (E1 σ)) (hm2 : ∀ σ, Kp5 (CS.i σ 5) (E2 σ)) (σ : CS) (x3 : Int32) (x5 : Int32) : Kp5 (CS.i σ 5) (f_X7_change_38 N E1 E2 σ x3 x5) := by
  unfold f_X7_change_38
  exact (k5_X7_change_41 N E1 E2 hm1 hm2 σ x3 x5 0)
theorem k5_X7_change (N : Nat) (E1 : CS → Option (Unit × CS)) (E2 : CS → Option (Int32 × CS)) (hm1 : ∀ σ, Kp5 (CS.i σ 5) (E1 σ)) (hm2 : ∀ σ, Kp5 (CS.i σ 5) (E2 σ)) (σ : CS) (x1 : Int64) (x3 : Int32) (x4 : Int32) : Kp5 (CS.i σ 5) (f_X7_change N E1 E2 σ x1 x3 x4) := by
  unfold f_X7_change
  exact (kp5_bind (k5_X4_find N σ x1) (fun p1 => (kp5_bind (k5_X1_found N p1.2 61) (fun p5 => (kp5_ite (kp5_ite (k5_X7_change_38 N E1 E2 hm1 hm2 p5.2 x3 p1.1) (kp5_bind (k5_X1_found N p5.2 135) (fun p56 => (kp5_ite (k5_X7_change_38 N E1 E2 hm1 hm2 p56.2 x3 p1.1) (k5_X7_change_34 N E1 E2 hm1 hm2 p56.2 x3 p1.1))))) (k5_X7_change_34 N E1 E2 hm1 hm2 p5.2 x3 p1.1))))))
theorem kb5_X6_labelled_7 (N : Nat) (K : CS → Int64 → Int32 → Option (Int32 × CS)) (hMK : ∀ (σ : CS) (x1 : Int64) (x3 : Int32), Kp5 (CS.i σ 5) (K σ x1 x3)) (σ : CS) (x1 : Int64) (x3 : Int32) : Kp5 (CS.i σ 5) (b_X6_labelled_7 N K σ x1 x3) := by
  unfold b_X6_labelled_7
  exact (kp5_ite (kp5_some (rfl)) (kp5_bind (k5_X6_row N σ x3) (fun p2 => (kp5_oc (hMK p2.2 x1 (x3 + (-1))) (fun a7 => (kp5_ite (kp5_ite (kp5_ite (kp5_some (rfl)) (hMK p2.2 x1 (x3 + (-1)))) (hMK p2.2 x1 (x3 + (-1)))) kp5_none))))))
theorem k5_X6_labelled_7 (N : Nat) : ∀ (n : Nat) (σ : CS) (x1 : Int64) (x3 : Int32), Kp5 (CS.i σ 5) (f_X6_labelled_7 N n σ x1 x3)
  | 0, _, _, _ => kp5_none
  | n+1, σ, x1, x3 => kb5_X6_labelled_7 N (f_X6_labelled_7 N n) (fun σ x1 x3 => k5_X6_labelled_7 N n σ x1 x3) σ x1 x3
theorem k5_X6_labelled (N : Nat) (σ : CS) (x1 : Int64) : Kp5 (CS.i σ 5) (f_X6_labelled N σ x1) := by
  unfold f_X6_labelled
  exact (k5_X6_labelled_7 N N σ x1 ((σ.i 53) - 1))
theorem k5_X7_named_73 (N : Nat) (E1 : CS → Option (Unit × CS)) (E2 : CS → Option (Int32 × CS)) (hm1 : ∀ σ, Kp5 (CS.i σ 5) (E1 σ)) (hm2 : ∀ σ, Kp5 (CS.i σ 5) (E2 σ)) (σ : CS) (x1 : Int64) : Kp5 (CS.i σ 5) (f_X7_named_73 N E1 E2 σ x1) := by
  unfold f_X7_named_73
  exact (kp5_bind (k5_X9_advance N σ) (fun p15 => (kp5_bind (k5_X6_push N p15.2 303 (p15.2.i 38) (p15.2.i 50)) (fun p19 => (kp5_oc kp5_none (fun a24 => (kp5_ite (kp5_bind (k5_X0_newTarget N (CS.setOl p19.2 a24 x1)) (fun p26 => (kp5_ite (kp5_some (rfl)) kp5_none))) kp5_none)))))))
theorem k5_X7_named (N : Nat) (E1 : CS → Option (Unit × CS)) (E2 : CS → Option (Int32 × CS)) (hm1 : ∀ σ, Kp5 (CS.i σ 5) (E1 σ)) (hm2 : ∀ σ, Kp5 (CS.i σ 5) (E2 σ)) (σ : CS) : Kp5 (CS.i σ 5) (f_X7_named N E1 E2 σ) := by
  unfold f_X7_named
  exact (kp5_bind (k5_X9_advance N σ) (fun p1 => (kp5_bind (k5_X1_found N p1.2 58) (fun p5 => (kp5_ite (kp5_bind (k5_X0_add N p5.2 51 0) (fun p35 => (kp5_bind (k5_X7_change N E1 E2 hm1 hm2 p35.2 σ.l (σ.i 44) 1) (fun p39 => (kp5_bind (k5_X1_expect N p39.2 59) (fun p43 => (kp5_some (rfl)))))))) (kp5_bind (k5_X6_labelled N p5.2 σ.l) (fun p10 => (kp5_ite (k5_X7_named_73 N E1 E2 hm1 hm2 p10.2 σ.l) (kp5_bind (k5_X1_fail N p10.2 4 (σ.i 44)) (fun p31 => (k5_X7_named_73 N E1 E2 hm1 hm2 p31.2 σ.l)))))))))))
theorem k5_X7_newName_56 (N : Nat) (σ : CS) (x1 : Int64) : Kp5 (CS.i σ 5) (f_X7_newName_56 N σ x1) := by
  unfold f_X7_newName_56
  exact (kp5_some (rfl))
theorem k5_X7_newName (N : Nat) (σ : CS) : Kp5 (CS.i σ 5) (f_X7_newName N σ) := by
  unfold f_X7_newName
  exact (kp5_bind (k5_X1_found N σ 2) (fun p1 => (kp5_ite (kp5_bind (k5_X1_misplaced N p1.2) (fun p19 => (k5_X7_newName_56 N p19.2 σ.l))) (kp5_bind (k5_X4_find N p1.2 σ.l) (fun p6 => (kp5_ite (kp5_bind (k5_X9_advance N p6.2) (fun p11 => (k5_X7_newName_56 N p11.2 σ.l))) (kp5_bind (k5_X1_fail N p6.2 4 (p6.2.i 44)) (fun p15 => (k5_X7_newName_56 N p15.2 σ.l)))))))))
theorem k5_X4_add (N : Nat) (σ : CS) (x1 : Int64) (x3 : Int32) (x4 : Int32) : Kp5 (CS.i σ 5) (f_X4_add N σ x1 x3 x4) := by
  unfold f_X4_add
  exact (kp5_ite (kp5_some (rfl)) (kp5_ite (kp5_some (rfl)) kp5_none))
theorem k5_X7_tell (N : Nat) (σ : CS) (x1 : Int64) : Kp5 (CS.i σ 5) (f_X7_tell N σ x1) := by
  unfold f_X7_tell
  exact (kp5_bind (k5_X0_newCells N σ 1) (fun p1 => (kp5_bind (k5_X4_add N p1.2 x1 p1.1 (-1)) (fun p5 => (kp5_some (rfl))))))
theorem k5_X7_define (N : Nat) (E1 : CS → Option (Unit × CS)) (E2 : CS → Option (Int32 × CS)) (hm1 : ∀ σ, Kp5 (CS.i σ 5) (E1 σ)) (hm2 : ∀ σ, Kp5 (CS.i σ 5) (E2 σ)) (σ : CS) (x1 : Int64) : Kp5 (CS.i σ 5) (f_X7_define N E1 E2 σ x1) := by
  unfold f_X7_define
  exact (kp5_bind (k5_X1_expect N σ 61) (fun p1 => (kp5_bind (k5_X1_expression N E1 E2 hm1 hm2 p1.2) (fun p5 => (kp5_bind (k5_X7_tell N p5.2 x1) (fun p9 => (kp5_bind (k5_X0_add N p9.2 2 p9.1) (fun p13 => (kp5_some (rfl))))))))))
theorem k5_X6_loopBehind_47 (N : Nat) (σ : CS) : Kp5 (CS.i σ 5) (f_X6_loopBehind_47 N σ ) := by
  unfold f_X6_loopBehind_47
  exact (kp5_some (rfl))
theorem k5_X6_loopBehind_32 (N : Nat) (σ : CS) (x2 : Int32) (x3 : Option Nat) : Kp5 (CS.i σ 5) (f_X6_loopBehind_32 N σ x2 x3) := by
  unfold f_X6_loopBehind_32
  exact (kp5_oc (k5_X6_loopBehind_47 N σ) (fun a9 => (kp5_ite (kp5_bind (k5_X5_isLoop N σ a9) (fun p12 => (kp5_ite (k5_X6_loopBehind_47 N p12.2) (kp5_some (rfl))))) kp5_none)))
theorem kb5_X6_loopBehind_4 (N : Nat) (K : CS → Int32 → Option (Int32 × CS)) (hMK : ∀ (σ : CS) (x2 : Int32), Kp5 (CS.i σ 5) (K σ x2)) (σ : CS) (x2 : Int32) : Kp5 (CS.i σ 5) (b_X6_loopBehind_4 N K σ x2) := by
  unfold b_X6_loopBehind_4
  exact (kp5_ite (kp5_some (rfl)) (kp5_bind (k5_X6_row N σ x2) (fun p2 => (kp5_oc (k5_X6_loopBehind_32 N p2.2 x2 none) (fun a7 => (kp5_ite (kp5_ite (hMK p2.2 (x2 + 1)) (k5_X6_loopBehind_32 N p2.2 x2 (some a7))) kp5_none))))))
theorem k5_X6_loopBehind_4 (N : Nat) : ∀ (n : Nat) (σ : CS) (x2 : Int32), Kp5 (CS.i σ 5) (f_X6_loopBehind_4 N n σ x2)
  | 0, _, _ => kp5_none
  | n+1, σ, x2 => kb5_X6_loopBehind_4 N (f_X6_loopBehind_4 N n) (fun σ x2 => k5_X6_loopBehind_4 N n σ x2) σ x2
theorem k5_X6_loopBehind (N : Nat) (σ : CS) (x1 : Int32) : Kp5 (CS.i σ 5) (f_X6_loopBehind N σ x1) := by
  unfold f_X6_loopBehind
  exact (k5_X6_loopBehind_4 N N σ (x1 + 1))
theorem k5_X7_labelTarget_63 (N : Nat) (σ : CS) (x2 : Int32) : Kp5 (CS.i σ 5) (f_X7_labelTarget_63 N σ x2) := by
  unfold f_X7_labelTarget_63
  exact (kp5_bind (k5_X9_advance N σ) (fun p7 => (kp5_some (rfl))))
theorem k5_X7_labelTarget (N : Nat) (σ : CS) (x1 : Int32) : Kp5 (CS.i σ 5) (f_X7_labelTarget N σ x1) := by
  unfold f_X7_labelTarget
  exact (kp5_bind (k5_X6_labelled N σ σ.l) (fun p1 => (kp5_ite (kp5_ite (k5_X7_labelTarget_63 N p1.2 p1.1) (kp5_bind (k5_X6_loopBehind N p1.2 p1.1) (fun p11 => (kp5_ite (k5_X7_labelTarget_63 N p11.2 p11.1) (kp5_bind (k5_X1_fail N p11.2 5 (p11.2.i 44)) (fun p16 => (k5_X7_labelTarget_63 N p16.2 p11.1))))))) (kp5_bind (k5_X1_fail N p1.2 3 (p1.2.i 44)) (fun p20 => (k5_X7_labelTarget_63 N p20.2 p1.1))))))
theorem k5_X6_nearest_46 (N : Nat) (σ : CS) (x2 : Int32) : Kp5 (CS.i σ 5) (f_X6_nearest_46 N σ x2) := by
  unfold f_X6_nearest_46
  exact (kp5_some (rfl))
theorem kb5_X6_nearest_7 (N : Nat) (K : CS → Int32 → Int32 → Option (Int32 × CS)) (hMK : ∀ (σ : CS) (x1 : Int32) (x2 : Int32), Kp5 (CS.i σ 5) (K σ x1 x2)) (σ : CS) (x1 : Int32) (x2 : Int32) : Kp5 (CS.i σ 5) (b_X6_nearest_7 N K σ x1 x2) := by
  unfold b_X6_nearest_7
  exact (kp5_ite (kp5_some (rfl)) (kp5_bind (k5_X6_row N σ x2) (fun p2 => (kp5_oc (hMK p2.2 x1 (x2 + (-1))) (fun a7 => (kp5_ite (kp5_bind (k5_X5_isLoop N p2.2 a7) (fun p10 => (kp5_ite (kp5_ite (kp5_ite (kp5_ite (k5_X6_nearest_46 N p10.2 x2) (hMK p10.2 x1 (x2 + (-1)))) kp5_none) (hMK p10.2 x1 (x2 + (-1)))) (k5_X6_nearest_46 N p10.2 x2)))) kp5_none))))))
theorem k5_X6_nearest_7 (N : Nat) : ∀ (n : Nat) (σ : CS) (x1 : Int32) (x2 : Int32), Kp5 (CS.i σ 5) (f_X6_nearest_7 N n σ x1 x2)
  | 0, _, _, _ => kp5_none
  | n+1, σ, x1, x2 => kb5_X6_nearest_7 N (f_X6_nearest_7 N n) (fun σ x1 x2 => k5_X6_nearest_7 N n σ x1 x2) σ x1 x2
theorem k5_X6_nearest (N : Nat) (σ : CS) (x1 : Int32) : Kp5 (CS.i σ 5) (f_X6_nearest N σ x1) := by
  unfold f_X6_nearest
  exact (k5_X6_nearest_7 N N σ x1 ((σ.i 53) - 1))
theorem k5_X6_addJump (N : Nat) (σ : CS) (x1 : Nat) (x2 : Int32) : Kp5 (CS.i σ 5) (f_X6_addJump N σ x1 x2) := by
  unfold f_X6_addJump
  exact (kp5_bind (k5_X6_jumpTo N σ x1 x2) (fun p1 => (kp5_some (rfl))))
theorem k5_X7_leave (N : Nat) (σ : CS) (x1 : Int32) (x2 : Int32) : Kp5 (CS.i σ 5) (f_X7_leave N σ x1 x2) := by
  unfold f_X7_leave
  exact (kp5_ite (kp5_bind (k5_X0_add N σ 30 x1) (fun p6 => (kp5_some (rfl)))) (kp5_bind (k5_X0_add N σ 60 ((x1 * 32) + x2)) (fun p2 => (kp5_some (rfl)))))
theorem k5_X7_jump_129 (N : Nat) (σ : CS) : Kp5 (CS.i σ 5) (f_X7_jump_129 N σ ) := by
  unfold f_X7_jump_129
  exact (kp5_some (rfl))
theorem k5_X7_jump_72 (N : Nat) (σ : CS) (x1 : Int32) (x3 : Int32) : Kp5 (CS.i σ 5) (f_X7_jump_72 N σ x1 x3) := by
  unfold f_X7_jump_72
  exact (kp5_bind (k5_X1_expect N σ 59) (fun p19 => (kp5_bind (k5_X6_row N p19.2 x3) (fun p23 => (kp5_oc (k5_X7_jump_129 N p23.2) (fun a28 => (kp5_bind (k5_X6_addJump N p23.2 a28 x1) (fun p29 => (kp5_ite (kp5_ite (kp5_bind (k5_X7_leave N p29.2 (CS.o p29.2 a28 9) (CS.o p29.2 a28 2)) (fun p35 => (k5_X7_jump_129 N p35.2))) kp5_none) (kp5_ite (kp5_bind (k5_X7_leave N p29.2 (CS.o p29.2 a28 10) (CS.o p29.2 a28 2)) (fun p40 => (k5_X7_jump_129 N p40.2))) kp5_none))))))))))
theorem k5_X7_jump (N : Nat) (σ : CS) : Kp5 (CS.i σ 5) (f_X7_jump N σ) := by
  unfold f_X7_jump
  exact (kp5_bind (k5_X1_found N σ 209) (fun p1 => (kp5_bind (k5_X9_advance N (CS.setI p1.2 26 ((p1.2.i 26) + 1))) (fun p5 => (kp5_bind (k5_X1_found N p5.2 2) (fun p9 => (kp5_ite (kp5_bind (k5_X6_nearest N p9.2 p1.1) (fun p14 => (kp5_ite (k5_X7_jump_72 N p14.2 p1.1 p14.1) (kp5_bind (k5_X1_fail N p14.2 5 (p1.2.i 44)) (fun p44 => (k5_X7_jump_72 N p44.2 p1.1 p14.1)))))) (kp5_bind (k5_X7_labelTarget N p9.2 p1.1) (fun p48 => (k5_X7_jump_72 N p48.2 p1.1 p48.1))))))))))
theorem k5_X7_giveBack_22 (N : Nat) (E1 : CS → Option (Unit × CS)) (E2 : CS → Option (Int32 × CS)) (hm1 : ∀ σ, Kp5 (CS.i σ 5) (E1 σ)) (hm2 : ∀ σ, Kp5 (CS.i σ 5) (E2 σ)) (σ : CS) : Kp5 (CS.i σ 5) (f_X7_giveBack_22 N E1 E2 σ ) := by
  unfold f_X7_giveBack_22
  exact (kp5_bind (k5_X9_advance N σ) (fun p2 => (kp5_bind (k5_X1_expression N E1 E2 hm1 hm2 p2.2) (fun p6 => (kp5_bind (k5_X0_add N p6.2 62 0) (fun p10 => (kp5_bind (k5_X1_expect N p10.2 59) (fun p14 => (kp5_some (rfl))))))))))
theorem k5_X7_giveBack (N : Nat) (E1 : CS → Option (Unit × CS)) (E2 : CS → Option (Int32 × CS)) (hm1 : ∀ σ, Kp5 (CS.i σ 5) (E1 σ)) (hm2 : ∀ σ, Kp5 (CS.i σ 5) (E2 σ)) (σ : CS) : Kp5 (CS.i σ 5) (f_X7_giveBack N E1 E2 σ) := by
  unfold f_X7_giveBack
  exact (kp5_ite (k5_X7_giveBack_22 N E1 E2 hm1 hm2 σ) (kp5_bind (k5_X1_fail N σ 5 (σ.i 44)) (fun p18 => (k5_X7_giveBack_22 N E1 E2 hm1 hm2 p18.2))))
theorem k5_X7_yieldValue (N : Nat) (E1 : CS → Option (Unit × CS)) (E2 : CS → Option (Int32 × CS)) (hm1 : ∀ σ, Kp5 (CS.i σ 5) (E1 σ)) (hm2 : ∀ σ, Kp5 (CS.i σ 5) (E2 σ)) (σ : CS) : Kp5 (CS.i σ 5) (f_X7_yieldValue N E1 E2 σ) := by
  unfold f_X7_yieldValue
  exact (kp5_bind (k5_X6_row N σ (σ.i 56)) (fun p1 => (kp5_oc (kp5_bind (k5_X1_fail N p1.2 5 (p1.2.i 44)) (fun p7 => (kp5_some (rfl)))) (fun a6 => (kp5_bind (k5_X9_advance N p1.2) (fun p11 => (kp5_bind (k5_X1_expression N E1 E2 hm1 hm2 p11.2) (fun p15 => (kp5_ite (kp5_bind (k5_X0_add N p15.2 61 (((CS.o p15.2 a6 9) * 32) + (CS.o p15.2 a6 2))) (fun p20 => (kp5_bind (k5_X1_expect N p20.2 59) (fun p24 => (kp5_some (rfl)))))) kp5_none)))))))))
theorem k5_X10_isKind_16 (N : Nat) (σ : CS) : Kp5 (CS.i σ 5) (f_X10_isKind_16 N σ ) := by
  unfold f_X10_isKind_16
  exact (kp5_some (rfl))
theorem k5_X10_isKind (N : Nat) (σ : CS) (x1 : Int32) : Kp5 (CS.i σ 5) (f_X10_isKind N σ x1) := by
  unfold f_X10_isKind
  exact (kp5_ite (k5_X10_isKind_16 N σ) (kp5_ite (k5_X10_isKind_16 N σ) (kp5_some (rfl))))
theorem k5_X4_frameOf (N : Nat) (σ : CS) (x1 : Int32) : Kp5 (CS.i σ 5) (f_X4_frameOf N σ x1) := by
  unfold f_X4_frameOf
  exact (kp5_some (rfl))
theorem k5_X7_throwOne_152 (N : Nat) (E1 : CS → Option (Unit × CS)) (E2 : CS → Option (Int32 × CS)) (hm1 : ∀ σ, Kp5 (CS.i σ 5) (E1 σ)) (hm2 : ∀ σ, Kp5 (CS.i σ 5) (E2 σ)) (σ : CS) : Kp5 (CS.i σ 5) (f_X7_throwOne_152 N E1 E2 σ ) := by
  unfold f_X7_throwOne_152
  exact (kp5_bind (k5_X1_expect N σ 59) (fun p19 => (kp5_some (rfl))))
theorem k5_X7_throwOne_108 (N : Nat) (E1 : CS → Option (Unit × CS)) (E2 : CS → Option (Int32 × CS)) (hm1 : ∀ σ, Kp5 (CS.i σ 5) (E1 σ)) (hm2 : ∀ σ, Kp5 (CS.i σ 5) (E2 σ)) (σ : CS) : Kp5 (CS.i σ 5) (f_X7_throwOne_108 N E1 E2 σ ) := by
  unfold f_X7_throwOne_108
  exact (kp5_bind (k5_X1_fail N σ 3 (σ.i 44)) (fun p28 => (kp5_some (rfl))))
theorem k5_X7_throwOne_46 (N : Nat) (E1 : CS → Option (Unit × CS)) (E2 : CS → Option (Int32 × CS)) (hm1 : ∀ σ, Kp5 (CS.i σ 5) (E1 σ)) (hm2 : ∀ σ, Kp5 (CS.i σ 5) (E2 σ)) (σ : CS) (x1 : Int32) : Kp5 (CS.i σ 5) (f_X7_throwOne_46 N E1 E2 σ x1) := by
  unfold f_X7_throwOne_46
  exact (kp5_bind (k5_X9_advance N σ) (fun p54 => (kp5_bind (k5_X1_expression N E1 E2 hm1 hm2 p54.2) (fun p58 => (kp5_bind (k5_X0_add N p58.2 63 x1) (fun p62 => (k5_X7_throwOne_152 N E1 E2 hm1 hm2 p62.2)))))))
theorem k5_X7_throwOne (N : Nat) (E1 : CS → Option (Unit × CS)) (E2 : CS → Option (Int32 × CS)) (hm1 : ∀ σ, Kp5 (CS.i σ 5) (E1 σ)) (hm2 : ∀ σ, Kp5 (CS.i σ 5) (E2 σ)) (σ : CS) : Kp5 (CS.i σ 5) (f_X7_throwOne N E1 E2 σ) := by
  unfold f_X7_throwOne
  exact (kp5_bind (k5_X9_advance N σ) (fun p1 => (kp5_bind (k5_X1_found N p1.2 5) (fun p5 => (kp5_ite (kp5_bind (k5_X1_found N p5.2 2) (fun p10 => (kp5_ite (kp5_bind (k5_X1_misplaced N p10.2) (fun p15 => (k5_X7_throwOne_152 N E1 E2 hm1 hm2 p15.2))) (kp5_bind (k5_X4_find N p10.2 p10.2.l) (fun p23 => (kp5_ite (k5_X7_throwOne_108 N E1 E2 hm1 hm2 p23.2) (kp5_bind (k5_X4_isCaught N p23.2 p23.1) (fun p32 => (kp5_ite (k5_X7_throwOne_108 N E1 E2 hm1 hm2 p32.2) (kp5_bind (k5_X4_frameOf N p32.2 p23.1) (fun p37 => (kp5_bind (k5_X0_add N p37.2 64 p37.1) (fun p41 => (kp5_bind (k5_X9_advance N p41.2) (fun p45 => (k5_X7_throwOne_152 N E1 E2 hm1 hm2 p45.2)))))))))))))))) (kp5_bind (k5_X10_isKind N p5.2 (p5.2.i 45)) (fun p49 => (kp5_ite (kp5_bind (k5_X1_fail N p49.2 3 (p49.2.i 44)) (fun p66 => (k5_X7_throwOne_46 N E1 E2 hm1 hm2 p66.2 (p5.2.i 45)))) (k5_X7_throwOne_46 N E1 E2 hm1 hm2 p49.2 (p5.2.i 45))))))))))
theorem k5_X7_claim_74 (N : Nat) (E1 : CS → Option (Unit × CS)) (E2 : CS → Option (Int32 × CS)) (hm1 : ∀ σ, Kp5 (CS.i σ 5) (E1 σ)) (hm2 : ∀ σ, Kp5 (CS.i σ 5) (E2 σ)) (σ : CS) (x1 : Int32) : Kp5 (CS.i σ 5) (f_X7_claim_74 N E1 E2 σ x1) := by
  unfold f_X7_claim_74
  exact (kp5_bind (k5_X0_add N σ 63 3) (fun p34 => (kp5_bind (k5_X0_aim N p34.2 x1) (fun p38 => (kp5_bind (k5_X1_expect N p38.2 59) (fun p42 => (kp5_some (rfl))))))))
theorem k5_X7_claim (N : Nat) (E1 : CS → Option (Unit × CS)) (E2 : CS → Option (Int32 × CS)) (hm1 : ∀ σ, Kp5 (CS.i σ 5) (E1 σ)) (hm2 : ∀ σ, Kp5 (CS.i σ 5) (E2 σ)) (σ : CS) : Kp5 (CS.i σ 5) (f_X7_claim N E1 E2 σ) := by
  unfold f_X7_claim
  exact (kp5_bind (k5_X0_newTarget N σ) (fun p1 => (kp5_bind (k5_X9_advance N p1.2) (fun p5 => (kp5_bind (k5_X0_add N p5.2 35 p1.1) (fun p9 => (kp5_bind (k5_X1_condition N E1 E2 hm1 hm2 p9.2) (fun p13 => (kp5_bind (k5_X0_add N p13.2 5 0) (fun p17 => (kp5_bind (k5_X0_add N p17.2 31 p1.1) (fun p21 => (kp5_bind (k5_X1_skip N p21.2 58) (fun p25 => (kp5_ite (kp5_bind (k5_X0_add N p25.2 0 0) (fun p30 => (k5_X7_claim_74 N E1 E2 hm1 hm2 p30.2 p1.1))) (kp5_bind (k5_X1_expression N E1 E2 hm1 hm2 p25.2) (fun p46 => (k5_X7_claim_74 N E1 E2 hm1 hm2 p46.2 p1.1))))))))))))))))))
theorem k5_X7_beginIf (N : Nat) (E1 : CS → Option (Unit × CS)) (E2 : CS → Option (Int32 × CS)) (hm1 : ∀ σ, Kp5 (CS.i σ 5) (E1 σ)) (hm2 : ∀ σ, Kp5 (CS.i σ 5) (E2 σ)) (σ : CS) : Kp5 (CS.i σ 5) (f_X7_beginIf N E1 E2 σ) := by
  unfold f_X7_beginIf
  exact (kp5_bind (k5_X0_newTarget N σ) (fun p1 => (kp5_bind (k5_X9_advance N p1.2) (fun p5 => (kp5_bind (k5_X7_conditionInside N E1 E2 hm1 hm2 p5.2) (fun p9 => (kp5_bind (k5_X0_add N p9.2 31 p1.1) (fun p13 => (kp5_bind (k5_X6_push N p13.2 203 (p13.2.i 38) (p13.2.i 50)) (fun p17 => (kp5_oc kp5_none (fun a22 => (kp5_ite (kp5_some (rfl)) kp5_none)))))))))))))
theorem k5_X7_pushLoop (N : Nat) (σ : CS) (x1 : Int32) (x2 : Int32) (x3 : Int32) : Kp5 (CS.i σ 5) (f_X7_pushLoop N σ x1 x2 x3) := by
  unfold f_X7_pushLoop
  exact (kp5_bind (k5_X6_push N σ x1 (σ.i 38) (σ.i 50)) (fun p1 => (kp5_oc kp5_none (fun a6 => (kp5_ite (kp5_some (rfl)) kp5_none)))))
theorem k5_X7_beginWhile (N : Nat) (E1 : CS → Option (Unit × CS)) (E2 : CS → Option (Int32 × CS)) (hm1 : ∀ σ, Kp5 (CS.i σ 5) (E1 σ)) (hm2 : ∀ σ, Kp5 (CS.i σ 5) (E2 σ)) (σ : CS) : Kp5 (CS.i σ 5) (f_X7_beginWhile N E1 E2 σ) := by
  unfold f_X7_beginWhile
  exact (kp5_bind (k5_X0_newTarget N σ) (fun p1 => (kp5_bind (k5_X0_newTarget N p1.2) (fun p5 => (kp5_bind (k5_X9_advance N p5.2) (fun p9 => (kp5_bind (k5_X0_aim N p9.2 p1.1) (fun p13 => (kp5_bind (k5_X7_conditionInside N E1 E2 hm1 hm2 p13.2) (fun p17 => (kp5_bind (k5_X0_add N p17.2 31 p5.1) (fun p21 => (kp5_bind (k5_X0_add N p21.2 51 0) (fun p25 => (kp5_bind (k5_X7_pushLoop N p25.2 205 p1.1 p5.1) (fun p29 => (kp5_oc kp5_none (fun a34 => (kp5_ite (kp5_ite (kp5_some (rfl)) kp5_none) kp5_none)))))))))))))))))))
theorem k5_X7_beginDo (N : Nat) (σ : CS) : Kp5 (CS.i σ 5) (f_X7_beginDo N σ) := by
  unfold f_X7_beginDo
  exact (kp5_bind (k5_X0_newTarget N σ) (fun p1 => (kp5_bind (k5_X0_newTarget N p1.2) (fun p5 => (kp5_bind (k5_X7_pushLoop N p5.2 206 p1.1 p5.1) (fun p9 => (kp5_oc (kp5_bind (k5_X0_newTarget N p9.2) (fun p15 => kp5_none)) (fun a14 => (kp5_bind (k5_X0_newTarget N p9.2) (fun p19 => (kp5_ite (kp5_bind (k5_X9_advance N (CS.setO p19.2 a14 11 p19.1)) (fun p24 => (kp5_ite (kp5_bind (k5_X0_aim N p24.2 (CS.o p24.2 a14 11)) (fun p29 => (kp5_bind (k5_X0_add N p29.2 51 0) (fun p33 => (kp5_some (rfl)))))) kp5_none))) kp5_none)))))))))))
theorem k5_X7_throwNull (N : Nat) (σ : CS) : Kp5 (CS.i σ 5) (f_X7_throwNull N σ) := by
  unfold f_X7_throwNull
  exact (kp5_bind (k5_X0_add N σ 0 0) (fun p1 => (kp5_bind (k5_X0_add N p1.2 63 1) (fun p5 => (kp5_some (rfl))))))
theorem k5_X7_rowValues_60 (N : Nat) (E1 : CS → Option (Unit × CS)) (E2 : CS → Option (Int32 × CS)) (hm1 : ∀ σ, Kp5 (CS.i σ 5) (E1 σ)) (hm2 : ∀ σ, Kp5 (CS.i σ 5) (E2 σ)) (σ : CS) (x1 : Int32) : Kp5 (CS.i σ 5) (f_X7_rowValues_60 N E1 E2 σ x1) := by
  unfold f_X7_rowValues_60
  exact (kp5_bind (k5_X0_newCells N σ (2 + x1)) (fun p11 => (kp5_bind (k5_X0_add N p11.2 0 x1) (fun p15 => (kp5_bind (k5_X0_add N p15.2 36 p11.1) (fun p19 => (kp5_some (rfl))))))))
theorem kb5_X7_rowValues_31 (N : Nat) (E1 : CS → Option (Unit × CS)) (E2 : CS → Option (Int32 × CS)) (hm1 : ∀ σ, Kp5 (CS.i σ 5) (E1 σ)) (hm2 : ∀ σ, Kp5 (CS.i σ 5) (E2 σ)) (K : CS → Int32 → Int32 → Option (Int32 × CS)) (hMK : ∀ (σ : CS) (x1 : Int32) (x2 : Int32), Kp5 (CS.i σ 5) (K σ x1 x2)) (σ : CS) (x1 : Int32) (x2 : Int32) : Kp5 (CS.i σ 5) (b_X7_rowValues_31 N E1 E2 K σ x1 x2) := by
  unfold b_X7_rowValues_31
  exact (kp5_ite (k5_X7_rowValues_60 N E1 E2 hm1 hm2 σ x1) (kp5_bind (k5_X1_skip N σ 44) (fun p23 => (kp5_ite (k5_X7_rowValues_60 N E1 E2 hm1 hm2 p23.2 x1) (kp5_bind (k5_X1_expression N E1 E2 hm1 hm2 p23.2) (fun p28 => (hMK p28.2 (x1 + 1) (x2 + 1))))))))
theorem k5_X7_rowValues_31 (N : Nat) (E1 : CS → Option (Unit × CS)) (E2 : CS → Option (Int32 × CS)) (hm1 : ∀ σ, Kp5 (CS.i σ 5) (E1 σ)) (hm2 : ∀ σ, Kp5 (CS.i σ 5) (E2 σ)) : ∀ (n : Nat) (σ : CS) (x1 : Int32) (x2 : Int32), Kp5 (CS.i σ 5) (f_X7_rowValues_31 N E1 E2 n σ x1 x2)
  | 0, _, _, _ => kp5_none
  | n+1, σ, x1, x2 => kb5_X7_rowValues_31 N E1 E2 hm1 hm2 (f_X7_rowValues_31 N E1 E2 n) (fun σ x1 x2 => k5_X7_rowValues_31 N E1 E2 hm1 hm2 n σ x1 x2) σ x1 x2
theorem k5_X7_rowValues (N : Nat) (E1 : CS → Option (Unit × CS)) (E2 : CS → Option (Int32 × CS)) (hm1 : ∀ σ, Kp5 (CS.i σ 5) (E1 σ)) (hm2 : ∀ σ, Kp5 (CS.i σ 5) (E2 σ)) (σ : CS) : Kp5 (CS.i σ 5) (f_X7_rowValues N E1 E2 σ) := by
  unfold f_X7_rowValues
  exact (kp5_bind (k5_X1_skip N σ 224) (fun p1 => (kp5_ite (kp5_bind (k5_X1_expression N E1 E2 hm1 hm2 p1.2) (fun p6 => (k5_X7_rowValues_31 N E1 E2 hm1 hm2 N p6.2 1 0))) (kp5_bind (k5_X7_throwNull N p1.2) (fun p32 => (kp5_bind (k5_X0_newCells N p32.2 2) (fun p36 => (kp5_some (rfl)))))))))
theorem k5_X7_rowHead (N : Nat) (E1 : CS → Option (Unit × CS)) (E2 : CS → Option (Int32 × CS)) (hm1 : ∀ σ, Kp5 (CS.i σ 5) (E1 σ)) (hm2 : ∀ σ, Kp5 (CS.i σ 5) (E2 σ)) (σ : CS) (x1 : Int64) : Kp5 (CS.i σ 5) (f_X7_rowHead N E1 E2 σ x1) := by
  unfold f_X7_rowHead
  exact (kp5_bind (k5_X0_newTarget N σ) (fun p1 => (kp5_bind (k5_X0_newTarget N p1.2) (fun p5 => (kp5_bind (k5_X9_advance N p5.2) (fun p9 => (kp5_bind (k5_X7_rowValues N E1 E2 hm1 hm2 p9.2) (fun p13 => (kp5_bind (k5_X1_close N p13.2 41) (fun p17 => (kp5_bind (k5_X0_aim N p17.2 p1.1) (fun p21 => (kp5_bind (k5_X0_add N p21.2 37 p13.1) (fun p25 => (kp5_bind (k5_X0_add N p25.2 31 p5.1) (fun p29 => (kp5_bind (k5_X0_add N p29.2 51 0) (fun p33 => (kp5_bind (k5_X0_add N p33.2 38 p13.1) (fun p37 => (kp5_bind (k5_X7_tell N p37.2 x1) (fun p41 => (kp5_bind (k5_X0_add N p41.2 2 p41.1) (fun p45 => (kp5_bind (k5_X7_pushLoop N p45.2 304 p1.1 p5.1) (fun p49 => (kp5_oc (kp5_some (rfl)) (fun a54 => (kp5_some (rfl))))))))))))))))))))))))))))))
theorem k5_X7_changeHere (N : Nat) (E1 : CS → Option (Unit × CS)) (E2 : CS → Option (Int32 × CS)) (hm1 : ∀ σ, Kp5 (CS.i σ 5) (E1 σ)) (hm2 : ∀ σ, Kp5 (CS.i σ 5) (E2 σ)) (σ : CS) (x1 : Int32) : Kp5 (CS.i σ 5) (f_X7_changeHere N E1 E2 σ x1) := by
  unfold f_X7_changeHere
  exact (kp5_bind (k5_X9_advance N σ) (fun p1 => (kp5_bind (k5_X7_change N E1 E2 hm1 hm2 p1.2 σ.l (σ.i 44) x1) (fun p5 => (kp5_some (rfl))))))
theorem k5_X7_forHead_113 (N : Nat) (E1 : CS → Option (Unit × CS)) (E2 : CS → Option (Int32 × CS)) (hm1 : ∀ σ, Kp5 (CS.i σ 5) (E1 σ)) (hm2 : ∀ σ, Kp5 (CS.i σ 5) (E2 σ)) (σ : CS) (x1 : Int32) (x2 : Int32) (x3 : Int32) (x4 : Int32) (x5 : Int32) : Kp5 (CS.i σ 5) (f_X7_forHead_113 N E1 E2 σ x1 x2 x3 x4 x5) := by
  unfold f_X7_forHead_113
  exact (kp5_bind (k5_X1_close N σ 41) (fun p47 => (kp5_bind (k5_X0_add N p47.2 30 x1) (fun p51 => (kp5_bind (k5_X0_aim N p51.2 x3) (fun p55 => (kp5_bind (k5_X0_add N p55.2 51 0) (fun p59 => (kp5_bind (k5_X7_pushLoop N p59.2 207 x2 x4) (fun p63 => (kp5_oc kp5_none (fun a68 => (kp5_ite (kp5_ite (kp5_some (rfl)) kp5_none) kp5_none)))))))))))))
theorem k5_X7_forHead_76 (N : Nat) (E1 : CS → Option (Unit × CS)) (E2 : CS → Option (Int32 × CS)) (hm1 : ∀ σ, Kp5 (CS.i σ 5) (E1 σ)) (hm2 : ∀ σ, Kp5 (CS.i σ 5) (E2 σ)) (σ : CS) (x1 : Int32) (x2 : Int32) (x3 : Int32) (x4 : Int32) (x5 : Int32) : Kp5 (CS.i σ 5) (f_X7_forHead_76 N E1 E2 σ x1 x2 x3 x4 x5) := by
  unfold f_X7_forHead_76
  exact (kp5_bind (k5_X0_add N σ 30 x3) (fun p30 => (kp5_bind (k5_X1_expect N p30.2 59) (fun p34 => (kp5_bind (k5_X0_aim N p34.2 x2) (fun p38 => (kp5_bind (k5_X1_found N p38.2 2) (fun p42 => (kp5_ite (k5_X7_forHead_113 N E1 E2 hm1 hm2 p42.2 x1 x2 x3 x4 x5) (kp5_bind (k5_X7_changeHere N E1 E2 hm1 hm2 p42.2 1) (fun p71 => (k5_X7_forHead_113 N E1 E2 hm1 hm2 p71.2 x1 x2 x3 x4 x5))))))))))))
theorem k5_X7_forHead (N : Nat) (E1 : CS → Option (Unit × CS)) (E2 : CS → Option (Int32 × CS)) (hm1 : ∀ σ, Kp5 (CS.i σ 5) (E1 σ)) (hm2 : ∀ σ, Kp5 (CS.i σ 5) (E2 σ)) (σ : CS) : Kp5 (CS.i σ 5) (f_X7_forHead N E1 E2 σ) := by
  unfold f_X7_forHead
  exact (kp5_bind (k5_X0_newTarget N σ) (fun p1 => (kp5_bind (k5_X0_newTarget N p1.2) (fun p5 => (kp5_bind (k5_X0_newTarget N p5.2) (fun p9 => (kp5_bind (k5_X0_newTarget N p9.2) (fun p13 => (kp5_bind (k5_X1_expect N p13.2 59) (fun p17 => (kp5_bind (k5_X0_aim N p17.2 p1.1) (fun p21 => (kp5_bind (k5_X1_found N p21.2 59) (fun p25 => (kp5_ite (kp5_bind (k5_X1_condition N E1 E2 hm1 hm2 p25.2) (fun p75 => (kp5_bind (k5_X0_add N p75.2 31 p13.1) (fun p79 => (k5_X7_forHead_76 N E1 E2 hm1 hm2 p79.2 p1.1 p5.1 p9.1 p13.1 p75.1))))) (k5_X7_forHead_76 N E1 E2 hm1 hm2 p25.2 p1.1 p5.1 p9.1 p13.1 1))))))))))))))))
theorem k5_X7_beginFor_85 (N : Nat) (E1 : CS → Option (Unit × CS)) (E2 : CS → Option (Int32 × CS)) (hm1 : ∀ σ, Kp5 (CS.i σ 5) (E1 σ)) (hm2 : ∀ σ, Kp5 (CS.i σ 5) (E2 σ)) (σ : CS) (x1 : Int32) (x2 : Option Nat) : Kp5 (CS.i σ 5) (f_X7_beginFor_85 N E1 E2 σ x1 x2) := by
  unfold f_X7_beginFor_85
  exact (kp5_oc kp5_none (fun a26 => (kp5_ite (kp5_some (rfl)) kp5_none)))
theorem k5_X7_beginFor_80 (N : Nat) (E1 : CS → Option (Unit × CS)) (E2 : CS → Option (Int32 × CS)) (hm1 : ∀ σ, Kp5 (CS.i σ 5) (E1 σ)) (hm2 : ∀ σ, Kp5 (CS.i σ 5) (E2 σ)) (σ : CS) (x1 : Int32) : Kp5 (CS.i σ 5) (f_X7_beginFor_80 N E1 E2 σ x1) := by
  unfold f_X7_beginFor_80
  exact (kp5_bind (k5_X7_forHead N E1 E2 hm1 hm2 σ) (fun p19 => (kp5_oc (k5_X7_beginFor_85 N E1 E2 hm1 hm2 p19.2 x1 none) (fun a24 => (k5_X7_beginFor_85 N E1 E2 hm1 hm2 p19.2 x1 (some a24))))))
theorem k5_X7_beginFor_64 (N : Nat) (E1 : CS → Option (Unit × CS)) (E2 : CS → Option (Int32 × CS)) (hm1 : ∀ σ, Kp5 (CS.i σ 5) (E1 σ)) (hm2 : ∀ σ, Kp5 (CS.i σ 5) (E2 σ)) (σ : CS) (x1 : Int32) (x2 : Option Nat) : Kp5 (CS.i σ 5) (f_X7_beginFor_64 N E1 E2 σ x1 x2) := by
  unfold f_X7_beginFor_64
  exact (k5_X7_beginFor_85 N E1 E2 hm1 hm2 σ x1 x2)
theorem k5_X7_beginFor (N : Nat) (E1 : CS → Option (Unit × CS)) (E2 : CS → Option (Int32 × CS)) (hm1 : ∀ σ, Kp5 (CS.i σ 5) (E1 σ)) (hm2 : ∀ σ, Kp5 (CS.i σ 5) (E2 σ)) (σ : CS) : Kp5 (CS.i σ 5) (f_X7_beginFor N E1 E2 σ) := by
  unfold f_X7_beginFor
  exact (kp5_bind (k5_X9_advance N σ) (fun p1 => (kp5_bind (k5_X1_open N p1.2 40) (fun p5 => (kp5_bind (k5_X1_skip N p5.2 200) (fun p9 => (kp5_ite (kp5_bind (k5_X1_found N p9.2 2) (fun p14 => (kp5_ite (k5_X7_beginFor_80 N E1 E2 hm1 hm2 p14.2 (σ.i 50)) (kp5_bind (k5_X7_changeHere N E1 E2 hm1 hm2 p14.2 0) (fun p28 => (k5_X7_beginFor_80 N E1 E2 hm1 hm2 p28.2 (σ.i 50))))))) (kp5_bind (k5_X7_newName N p9.2) (fun p32 => (kp5_bind (k5_X1_found N p32.2 58) (fun p36 => (kp5_ite (kp5_bind (k5_X7_define N E1 E2 hm1 hm2 p36.2 p32.1) (fun p41 => (kp5_bind (k5_X7_forHead N E1 E2 hm1 hm2 p41.2) (fun p45 => (kp5_oc (k5_X7_beginFor_64 N E1 E2 hm1 hm2 p45.2 (σ.i 50) none) (fun a50 => (k5_X7_beginFor_64 N E1 E2 hm1 hm2 p45.2 (σ.i 50) (some a50)))))))) (kp5_bind (k5_X7_rowHead N E1 E2 hm1 hm2 p36.2 p32.1) (fun p51 => (kp5_oc (k5_X7_beginFor_64 N E1 E2 hm1 hm2 p51.2 (σ.i 50) none) (fun a56 => (k5_X7_beginFor_64 N E1 E2 hm1 hm2 p51.2 (σ.i 50) (some a56))))))))))))))))))
theorem k5_X7_beginLock_58 (N : Nat) (σ : CS) : Kp5 (CS.i σ 5) (f_X7_beginLock_58 N σ ) := by
  unfold f_X7_beginLock_58
  exact (kp5_bind (k5_X1_close N σ 41) (fun p22 => (kp5_bind (k5_X1_open N p22.2 123) (fun p26 => (kp5_bind (k5_X6_push N p26.2 212 (p26.2.i 38) (p26.2.i 50)) (fun p30 => (kp5_oc (kp5_bind (k5_X0_newTarget N p30.2) (fun p36 => kp5_none)) (fun a35 => (kp5_bind (k5_X0_newTarget N p30.2) (fun p40 => (kp5_ite (kp5_some (rfl)) kp5_none)))))))))))
theorem k5_X7_beginLock (N : Nat) (σ : CS) : Kp5 (CS.i σ 5) (f_X7_beginLock N σ) := by
  unfold f_X7_beginLock
  exact (kp5_bind (k5_X9_advance N σ) (fun p1 => (kp5_bind (k5_X1_open N p1.2 40) (fun p5 => (kp5_bind (k5_X1_found N p5.2 3) (fun p9 => (kp5_ite (kp5_bind (k5_X1_expect N p9.2 224) (fun p14 => (kp5_bind (k5_X7_throwNull N p14.2) (fun p18 => (k5_X7_beginLock_58 N p18.2))))) (kp5_bind (k5_X0_add N p9.2 53 (p9.2.i 45)) (fun p45 => (kp5_bind (k5_X9_advance N p45.2) (fun p49 => (k5_X7_beginLock_58 N p49.2))))))))))))
theorem k5_X7_beginSwitch (N : Nat) (E1 : CS → Option (Unit × CS)) (E2 : CS → Option (Int32 × CS)) (hm1 : ∀ σ, Kp5 (CS.i σ 5) (E1 σ)) (hm2 : ∀ σ, Kp5 (CS.i σ 5) (E2 σ)) (σ : CS) : Kp5 (CS.i σ 5) (f_X7_beginSwitch N E1 E2 σ) := by
  unfold f_X7_beginSwitch
  exact (kp5_bind (k5_X9_advance N σ) (fun p1 => (kp5_bind (k5_X1_open N p1.2 40) (fun p5 => (kp5_bind (k5_X1_expression N E1 E2 hm1 hm2 p5.2) (fun p9 => (kp5_bind (k5_X1_close N p9.2 41) (fun p13 => (kp5_bind (k5_X1_open N p13.2 123) (fun p17 => (kp5_bind (k5_X6_push N p17.2 218 (p17.2.i 38) (p17.2.i 50)) (fun p21 => (kp5_oc (kp5_bind (k5_X0_newTarget N p21.2) (fun p27 => kp5_none)) (fun a26 => (kp5_bind (k5_X0_newTarget N p21.2) (fun p31 => (kp5_ite (kp5_bind (k5_X0_newTarget N (CS.setO p31.2 a26 10 p31.1)) (fun p36 => (kp5_ite (kp5_bind (k5_X0_add N (CS.setO (CS.setO p36.2 a26 9 p36.1) a26 13 (p36.2.i 22)) 30 (CS.o (CS.setO (CS.setO p36.2 a26 9 p36.1) a26 13 (p36.2.i 22)) a26 10)) (fun p41 => (kp5_some (rfl)))) kp5_none))) kp5_none)))))))))))))))))
theorem k5_X7_openResource (N : Nat) (σ : CS) : Kp5 (CS.i σ 5) (f_X7_openResource N σ) := by
  unfold f_X7_openResource
  exact (kp5_bind (k5_X1_found N σ 4) (fun p1 => (kp5_ite (kp5_bind (k5_X1_misplaced N p1.2) (fun p14 => (kp5_some (rfl)))) (kp5_bind (k5_X0_add N p1.2 55 (p1.2.i 45)) (fun p6 => (kp5_bind (k5_X9_advance N p6.2) (fun p10 => (kp5_some (rfl)))))))))
theorem k5_X7_beginTry_132 (N : Nat) (σ : CS) : Kp5 (CS.i σ 5) (f_X7_beginTry_132 N σ ) := by
  unfold f_X7_beginTry_132
  exact (kp5_bind (k5_X1_open N σ 123) (fun p40 => (kp5_some (rfl))))
theorem kb5_X7_beginTry_106 (N : Nat) (K : CS → Int32 → Option (Unit × CS)) (hMK : ∀ (σ : CS) (x2 : Int32), Kp5 (CS.i σ 5) (K σ x2)) (σ : CS) (x2 : Int32) : Kp5 (CS.i σ 5) (b_X7_beginTry_106 N K σ x2) := by
  unfold b_X7_beginTry_106
  exact (kp5_ite (k5_X7_beginTry_132 N σ) (kp5_bind (k5_X1_skip N σ 44) (fun p50 => (kp5_ite (k5_X7_beginTry_132 N p50.2) (kp5_bind (k5_X7_openResource N p50.2) (fun p55 => (hMK p55.2 (x2 + 1))))))))
theorem k5_X7_beginTry_106 (N : Nat) : ∀ (n : Nat) (σ : CS) (x2 : Int32), Kp5 (CS.i σ 5) (f_X7_beginTry_106 N n σ x2)
  | 0, _, _ => kp5_none
  | n+1, σ, x2 => kb5_X7_beginTry_106 N (f_X7_beginTry_106 N n) (fun σ x2 => k5_X7_beginTry_106 N n σ x2) σ x2
theorem k5_X7_beginTry (N : Nat) (σ : CS) : Kp5 (CS.i σ 5) (f_X7_beginTry N σ) := by
  unfold f_X7_beginTry
  exact (kp5_bind (k5_X6_push N σ 213 (σ.i 38) (σ.i 50)) (fun p1 => (kp5_oc (kp5_bind (k5_X0_newTarget N p1.2) (fun p7 => kp5_none)) (fun a6 => (kp5_bind (k5_X0_newTarget N p1.2) (fun p11 => (kp5_ite (kp5_bind (k5_X0_newTarget N (CS.setO p11.2 a6 10 p11.1)) (fun p16 => (kp5_ite (kp5_bind (k5_X0_newTarget N (CS.setO p16.2 a6 11 p16.1)) (fun p21 => (kp5_ite (kp5_bind (k5_X9_advance N (CS.setO p21.2 a6 9 p21.1)) (fun p26 => (kp5_ite (kp5_bind (k5_X0_add N p26.2 54 (CS.o p26.2 a6 10)) (fun p31 => (kp5_bind (k5_X1_skip N (CS.setI p31.2 38 ((p31.2.i 38) + 1)) 214) (fun p35 => (kp5_ite (k5_X7_beginTry_132 N p35.2) (kp5_ite (kp5_bind (k5_X7_openResource N (CS.setO p35.2 a6 8 1)) (fun p45 => (k5_X7_beginTry_106 N N p45.2 0))) kp5_none)))))) kp5_none))) kp5_none))) kp5_none))) kp5_none)))))))
theorem k5_X7_compound (N : Nat) (E1 : CS → Option (Unit × CS)) (E2 : CS → Option (Int32 × CS)) (hm1 : ∀ σ, Kp5 (CS.i σ 5) (E1 σ)) (hm2 : ∀ σ, Kp5 (CS.i σ 5) (E2 σ)) (σ : CS) : Kp5 (CS.i σ 5) (f_X7_compound N E1 E2 σ) := by
  unfold f_X7_compound
  exact (kp5_ite (kp5_bind (k5_X7_beginIf N E1 E2 hm1 hm2 σ) (fun p2 => (kp5_some (rfl)))) (kp5_ite (kp5_bind (k5_X1_misplaced N σ) (fun p7 => (kp5_some (rfl)))) (kp5_ite (kp5_bind (k5_X7_beginWhile N E1 E2 hm1 hm2 σ) (fun p12 => (kp5_some (rfl)))) (kp5_ite (kp5_bind (k5_X7_beginDo N σ) (fun p17 => (kp5_some (rfl)))) (kp5_ite (kp5_bind (k5_X7_beginFor N E1 E2 hm1 hm2 σ) (fun p22 => (kp5_some (rfl)))) (kp5_ite (kp5_bind (k5_X1_misplaced N σ) (fun p27 => (kp5_some (rfl)))) (kp5_ite (kp5_bind (k5_X1_misplaced N σ) (fun p32 => (kp5_some (rfl)))) (kp5_ite (kp5_bind (k5_X1_misplaced N σ) (fun p37 => (kp5_some (rfl)))) (kp5_ite (kp5_bind (k5_X1_misplaced N σ) (fun p42 => (kp5_some (rfl)))) (kp5_ite (kp5_bind (k5_X7_beginLock N σ) (fun p47 => (kp5_some (rfl)))) (kp5_ite (kp5_bind (k5_X7_beginTry N σ) (fun p52 => (kp5_some (rfl)))) (kp5_ite (kp5_bind (k5_X1_misplaced N σ) (fun p57 => (kp5_some (rfl)))) (kp5_ite (kp5_bind (k5_X1_misplaced N σ) (fun p62 => (kp5_some (rfl)))) (kp5_ite (kp5_bind (k5_X1_misplaced N σ) (fun p67 => (kp5_some (rfl)))) (kp5_ite (kp5_bind (k5_X1_misplaced N σ) (fun p72 => (kp5_some (rfl)))) (kp5_ite (kp5_bind (k5_X7_beginSwitch N E1 E2 hm1 hm2 σ) (fun p77 => (kp5_some (rfl)))) (kp5_bind (k5_X1_misplaced N σ) (fun p81 => (kp5_some (rfl))))))))))))))))))))
theorem k5_X7_plain (N : Nat) (E1 : CS → Option (Unit × CS)) (E2 : CS → Option (Int32 × CS)) (hm1 : ∀ σ, Kp5 (CS.i σ 5) (E1 σ)) (hm2 : ∀ σ, Kp5 (CS.i σ 5) (E2 σ)) (σ : CS) : Kp5 (CS.i σ 5) (f_X7_plain N E1 E2 σ) := by
  unfold f_X7_plain
  exact (kp5_ite (kp5_bind (k5_X9_advance N σ) (fun p2 => (kp5_some (rfl)))) (kp5_ite (kp5_bind (k5_X9_advance N σ) (fun p7 => (kp5_bind (k5_X7_newName N p7.2) (fun p11 => (kp5_bind (k5_X7_define N E1 E2 hm1 hm2 p11.2 p11.1) (fun p15 => (kp5_bind (k5_X1_expect N p15.2 59) (fun p19 => (kp5_some (rfl)))))))))) (kp5_ite (kp5_bind (k5_X9_advance N σ) (fun p24 => (kp5_bind (k5_X7_newName N p24.2) (fun p28 => (kp5_bind (k5_X7_define N E1 E2 hm1 hm2 p28.2 p28.1) (fun p32 => (kp5_bind (k5_X1_expect N p32.2 59) (fun p36 => (kp5_some (rfl)))))))))) (kp5_ite (kp5_bind (k5_X9_advance N σ) (fun p41 => (kp5_bind (k5_X1_expression N E1 E2 hm1 hm2 p41.2) (fun p45 => (kp5_bind (k5_X0_add N p45.2 52 0) (fun p49 => (kp5_bind (k5_X1_expect N p49.2 59) (fun p53 => (kp5_some (rfl)))))))))) (kp5_ite (kp5_bind (k5_X7_jump N σ) (fun p58 => (kp5_some (rfl)))) (kp5_ite (kp5_bind (k5_X7_jump N σ) (fun p63 => (kp5_some (rfl)))) (kp5_ite (kp5_bind (k5_X7_giveBack N E1 E2 hm1 hm2 σ) (fun p68 => (kp5_some (rfl)))) (kp5_ite (kp5_bind (k5_X7_throwOne N E1 E2 hm1 hm2 σ) (fun p73 => (kp5_some (rfl)))) (kp5_ite (kp5_bind (k5_X7_claim N E1 E2 hm1 hm2 σ) (fun p78 => (kp5_some (rfl)))) (kp5_ite (kp5_bind (k5_X7_yieldValue N E1 E2 hm1 hm2 σ) (fun p83 => (kp5_some (rfl)))) (kp5_bind (k5_X7_compound N E1 E2 hm1 hm2 σ) (fun p87 => (kp5_some (rfl))))))))))))))
theorem k5_X7_statement_122 (N : Nat) (E1 : CS → Option (Unit × CS)) (E2 : CS → Option (Int32 × CS)) (hm1 : ∀ σ, Kp5 (CS.i σ 5) (E1 σ)) (hm2 : ∀ σ, Kp5 (CS.i σ 5) (E2 σ)) (σ : CS) : Kp5 (CS.i σ 5) (f_X7_statement_122 N E1 E2 σ ) := by
  unfold f_X7_statement_122
  exact (kp5_bind (k5_X0_add N σ 51 0) (fun p13 => (kp5_bind (k5_X7_plain N E1 E2 hm1 hm2 p13.2) (fun p17 => (kp5_some (rfl))))))
theorem k5_X7_statement_115 (N : Nat) (E1 : CS → Option (Unit × CS)) (E2 : CS → Option (Int32 × CS)) (hm1 : ∀ σ, Kp5 (CS.i σ 5) (E1 σ)) (hm2 : ∀ σ, Kp5 (CS.i σ 5) (E2 σ)) (σ : CS) : Kp5 (CS.i σ 5) (f_X7_statement_115 N E1 E2 σ ) := by
  unfold f_X7_statement_115
  exact (kp5_bind (k5_X1_misplaced N σ) (fun p26 => (kp5_some (rfl))))
theorem k5_X7_statement_18 (N : Nat) (E1 : CS → Option (Unit × CS)) (E2 : CS → Option (Int32 × CS)) (hm1 : ∀ σ, Kp5 (CS.i σ 5) (E1 σ)) (hm2 : ∀ σ, Kp5 (CS.i σ 5) (E2 σ)) (σ : CS) (x1 : Int32) : Kp5 (CS.i σ 5) (f_X7_statement_18 N E1 E2 σ x1) := by
  unfold f_X7_statement_18
  exact (kp5_bind (k5_X1_found N (CS.setI (CS.setI σ 36 1) 24 ((σ.i 24) + 1)) 2) (fun p2 => (kp5_ite (kp5_bind (k5_X1_found N p2.2 123) (fun p7 => (kp5_ite (kp5_ite (k5_X7_statement_122 N E1 E2 hm1 hm2 p7.2) (kp5_bind (k5_X1_found N p7.2 200) (fun p21 => (kp5_ite (kp5_bind (k5_X1_found N p21.2 201) (fun p30 => (kp5_ite (k5_X7_statement_122 N E1 E2 hm1 hm2 p30.2) (k5_X7_statement_115 N E1 E2 hm1 hm2 p30.2)))) (k5_X7_statement_115 N E1 E2 hm1 hm2 p21.2))))) (kp5_bind (k5_X1_open N p7.2 123) (fun p35 => (kp5_bind (k5_X6_push N p35.2 301 (p35.2.i 38) (p35.2.i 50)) (fun p39 => (kp5_oc (kp5_some (rfl)) (fun a44 => (kp5_some (rfl))))))))))) (kp5_bind (k5_X7_named N E1 E2 hm1 hm2 p2.2) (fun p45 => (kp5_some (rfl)))))))
theorem k5_X7_statement (N : Nat) (E1 : CS → Option (Unit × CS)) (E2 : CS → Option (Int32 × CS)) (hm1 : ∀ σ, Kp5 (CS.i σ 5) (E1 σ)) (hm2 : ∀ σ, Kp5 (CS.i σ 5) (E2 σ)) (σ : CS) (x1 : Int32) : Kp5 (CS.i σ 5) (f_X7_statement N E1 E2 σ x1) := by
  unfold f_X7_statement
  exact (kp5_ite (kp5_bind (k5_X7_notReached N σ (σ.i 44)) (fun p49 => (k5_X7_statement_18 N E1 E2 hm1 hm2 p49.2 x1))) (k5_X7_statement_18 N E1 E2 hm1 hm2 σ x1))
theorem k5_X7_bodyTurn (N : Nat) (E1 : CS → Option (Unit × CS)) (E2 : CS → Option (Int32 × CS)) (hm1 : ∀ σ, Kp5 (CS.i σ 5) (E1 σ)) (hm2 : ∀ σ, Kp5 (CS.i σ 5) (E2 σ)) (σ : CS) (x1 : Nat) : Kp5 (CS.i σ 5) (f_X7_bodyTurn N E1 E2 σ x1) := by
  unfold f_X7_bodyTurn
  exact (kp5_ite (kp5_ite (kp5_bind (k5_X7_statement N E1 E2 hm1 hm2 (CS.setO σ x1 5 1) 1) (fun p3 => (kp5_some (rfl)))) (kp5_bind (k5_X7_endBody N E1 E2 hm1 hm2 σ x1) (fun p7 => (kp5_some (rfl))))) kp5_none)
theorem k5_X10_isUnder_38 (N : Nat) (σ : CS) : Kp5 (CS.i σ 5) (f_X10_isUnder_38 N σ ) := by
  unfold f_X10_isUnder_38
  exact (kp5_some (rfl))
theorem kb5_X10_isUnder_5 (N : Nat) (K : CS → Int32 → Int32 → Int32 → Option (Int32 × CS)) (hMK : ∀ (σ : CS) (x2 : Int32) (x3 : Int32) (x4 : Int32), Kp5 (CS.i σ 5) (K σ x2 x3 x4)) (σ : CS) (x2 : Int32) (x3 : Int32) (x4 : Int32) : Kp5 (CS.i σ 5) (b_X10_isUnder_5 N K σ x2 x3 x4) := by
  unfold b_X10_isUnder_5
  exact (kp5_ite (k5_X10_isUnder_38 N σ) (kp5_ite (k5_X10_isUnder_38 N σ) (kp5_ite (kp5_some (rfl)) (hMK σ x2 (gAt (σ.a 9) 12 x3) (x4 + 1)))))
theorem k5_X10_isUnder_5 (N : Nat) : ∀ (n : Nat) (σ : CS) (x2 : Int32) (x3 : Int32) (x4 : Int32), Kp5 (CS.i σ 5) (f_X10_isUnder_5 N n σ x2 x3 x4)
  | 0, _, _, _, _ => kp5_none
  | n+1, σ, x2, x3, x4 => kb5_X10_isUnder_5 N (f_X10_isUnder_5 N n) (fun σ x2 x3 x4 => k5_X10_isUnder_5 N n σ x2 x3 x4) σ x2 x3 x4
theorem k5_X10_isUnder (N : Nat) (σ : CS) (x1 : Int32) (x2 : Int32) : Kp5 (CS.i σ 5) (f_X10_isUnder N σ x1 x2) := by
  unfold f_X10_isUnder
  exact (k5_X10_isUnder_5 N N σ x2 x1 0)
theorem kb5_X7_caughtKind_47 (N : Nat) (K : CS → Nat → Int32 → Int32 → Int32 → Option (Unit × CS)) (hMK : ∀ (σ : CS) (x1 : Nat) (x2 : Int32) (x3 : Int32) (x4 : Int32), Kp5 (CS.i σ 5) (K σ x1 x2 x3 x4)) (σ : CS) (x1 : Nat) (x2 : Int32) (x3 : Int32) (x4 : Int32) : Kp5 (CS.i σ 5) (b_X7_caughtKind_47 N K σ x1 x2 x3 x4) := by
  unfold b_X7_caughtKind_47
  exact (kp5_ite (kp5_ite (kp5_bind (k5_X0_add N (CS.setO σ x1 12 ((CS.o σ x1 12) ||| ((1 : Int32) <<< (x3 &&& 31)))) 56 ((x2 * 16) + x3)) (fun p13 => (kp5_bind (k5_X9_advance N p13.2) (fun p17 => (kp5_some (rfl)))))) kp5_none) (kp5_ite (kp5_ite (kp5_bind (k5_X10_isUnder N σ x3 x4) (fun p23 => (kp5_ite (hMK p23.2 x1 x2 x3 (x4 + 1)) (kp5_bind (k5_X1_fail N p23.2 6 (p23.2.i 44)) (fun p28 => (hMK p28.2 x1 x2 x3 (x4 + 1))))))) (hMK σ x1 x2 x3 (x4 + 1))) kp5_none))
theorem k5_X7_caughtKind_47 (N : Nat) : ∀ (n : Nat) (σ : CS) (x1 : Nat) (x2 : Int32) (x3 : Int32) (x4 : Int32), Kp5 (CS.i σ 5) (f_X7_caughtKind_47 N n σ x1 x2 x3 x4)
  | 0, _, _, _, _, _ => kp5_none
  | n+1, σ, x1, x2, x3, x4 => kb5_X7_caughtKind_47 N (f_X7_caughtKind_47 N n) (fun σ x1 x2 x3 x4 => k5_X7_caughtKind_47 N n σ x1 x2 x3 x4) σ x1 x2 x3 x4
theorem k5_X7_caughtKind_44 (N : Nat) (σ : CS) (x1 : Nat) (x2 : Int32) (x3 : Int32) : Kp5 (CS.i σ 5) (f_X7_caughtKind_44 N σ x1 x2 x3) := by
  unfold f_X7_caughtKind_44
  exact (k5_X7_caughtKind_47 N N σ x1 x2 x3 0)
theorem k5_X7_caughtKind (N : Nat) (σ : CS) (x1 : Nat) (x2 : Int32) : Kp5 (CS.i σ 5) (f_X7_caughtKind N σ x1 x2) := by
  unfold f_X7_caughtKind
  exact (kp5_bind (k5_X1_found N σ 5) (fun p1 => (kp5_ite (kp5_bind (k5_X1_misplaced N p1.2) (fun p36 => (kp5_some (rfl)))) (kp5_bind (k5_X10_isKind N p1.2 (p1.2.i 45)) (fun p6 => (kp5_ite (kp5_bind (k5_X1_fail N p6.2 3 (p6.2.i 44)) (fun p32 => (k5_X7_caughtKind_44 N p32.2 x1 x2 (p1.2.i 45)))) (k5_X7_caughtKind_44 N p6.2 x1 x2 (p1.2.i 45))))))))
theorem k5_X7_beginCatch_80 (N : Nat) (σ : CS) (x1 : Nat) (x2 : Int32) : Kp5 (CS.i σ 5) (f_X7_beginCatch_80 N σ x1 x2) := by
  unfold f_X7_beginCatch_80
  exact (kp5_bind (k5_X0_newCells N σ 1) (fun p24 => (kp5_bind (k5_X7_newName N p24.2) (fun p28 => (kp5_bind (k5_X4_add N p28.2 p28.1 p24.1 ((p28.2.i 38) - 1)) (fun p32 => (kp5_bind (k5_X1_close N p32.2 41) (fun p36 => (kp5_bind (k5_X1_open N p36.2 123) (fun p40 => (kp5_ite (kp5_bind (k5_X0_add N p40.2 30 (CS.o p40.2 x1 10)) (fun p45 => (kp5_bind (k5_X0_aim N p45.2 x2) (fun p49 => (kp5_bind (k5_X0_add N p49.2 57 p24.1) (fun p53 => (kp5_some (rfl)))))))) kp5_none)))))))))))
theorem kb5_X7_beginCatch_52 (N : Nat) (K : CS → Nat → Int32 → Int32 → Option (Unit × CS)) (hMK : ∀ (σ : CS) (x1 : Nat) (x2 : Int32) (x3 : Int32), Kp5 (CS.i σ 5) (K σ x1 x2 x3)) (σ : CS) (x1 : Nat) (x2 : Int32) (x3 : Int32) : Kp5 (CS.i σ 5) (b_X7_beginCatch_52 N K σ x1 x2 x3) := by
  unfold b_X7_beginCatch_52
  exact (kp5_ite (k5_X7_beginCatch_80 N σ x1 x2) (kp5_bind (k5_X1_skip N σ 124) (fun p57 => (kp5_ite (k5_X7_beginCatch_80 N p57.2 x1 x2) (kp5_bind (k5_X7_caughtKind N p57.2 x1 x2) (fun p62 => (hMK p62.2 x1 x2 (x3 + 1))))))))
theorem k5_X7_beginCatch_52 (N : Nat) : ∀ (n : Nat) (σ : CS) (x1 : Nat) (x2 : Int32) (x3 : Int32), Kp5 (CS.i σ 5) (f_X7_beginCatch_52 N n σ x1 x2 x3)
  | 0, _, _, _, _ => kp5_none
  | n+1, σ, x1, x2, x3 => kb5_X7_beginCatch_52 N (f_X7_beginCatch_52 N n) (fun σ x1 x2 x3 => k5_X7_beginCatch_52 N n σ x1 x2 x3) σ x1 x2 x3
theorem k5_X7_beginCatch (N : Nat) (σ : CS) (x1 : Nat) : Kp5 (CS.i σ 5) (f_X7_beginCatch N σ x1) := by
  unfold f_X7_beginCatch
  exact (kp5_bind (k5_X0_newTarget N σ) (fun p1 => (kp5_ite (kp5_bind (k5_X0_newTarget N (CS.setO (CS.setO p1.2 x1 0 215) x1 8 1)) (fun p6 => (kp5_ite (kp5_bind (k5_X9_advance N (CS.setO p6.2 x1 10 p6.1)) (fun p11 => (kp5_bind (k5_X1_open N p11.2 40) (fun p15 => (kp5_bind (k5_X7_caughtKind N p15.2 x1 p1.1) (fun p19 => (k5_X7_beginCatch_52 N N p19.2 x1 p1.1 0))))))) kp5_none))) kp5_none)))
theorem k5_X7_beginFinally (N : Nat) (σ : CS) (x1 : Nat) : Kp5 (CS.i σ 5) (f_X7_beginFinally N σ x1) := by
  unfold f_X7_beginFinally
  exact (kp5_ite (kp5_bind (k5_X9_advance N (CS.setO (CS.setO σ x1 0 216) x1 15 (σ.i 55))) (fun p2 => (kp5_bind (k5_X1_open N p2.2 123) (fun p6 => (kp5_bind (k5_X0_add N p6.2 58 0) (fun p10 => (kp5_ite (kp5_bind (k5_X0_aim N p10.2 (CS.o p10.2 x1 11)) (fun p15 => (kp5_some (rfl)))) kp5_none))))))) kp5_none)
theorem k5_X7_endLock (N : Nat) (σ : CS) (x1 : Nat) : Kp5 (CS.i σ 5) (f_X7_endLock N σ x1) := by
  unfold f_X7_endLock
  exact (kp5_ite (kp5_bind (k5_X7_leave N σ (CS.o σ x1 9) (CS.o σ x1 2)) (fun p2 => (kp5_ite (kp5_bind (k5_X0_aim N p2.2 (CS.o p2.2 x1 9)) (fun p7 => (kp5_bind (k5_X6_pop N (CS.setI p7.2 38 ((p7.2.i 38) - 1))) (fun p11 => (kp5_some (rfl)))))) kp5_none))) kp5_none)
theorem k5_X7_endSwitch_99 (N : Nat) (σ : CS) : Kp5 (CS.i σ 5) (f_X7_endSwitch_99 N σ ) := by
  unfold f_X7_endSwitch_99
  exact (kp5_bind (k5_X6_pop N σ) (fun p23 => (kp5_some (rfl))))
theorem k5_X7_endSwitch_53 (N : Nat) (σ : CS) (x1 : Nat) : Kp5 (CS.i σ 5) (f_X7_endSwitch_53 N σ x1) := by
  unfold f_X7_endSwitch_53
  exact (kp5_ite (kp5_bind (k5_X0_aim N σ (CS.o σ x1 9)) (fun p18 => (kp5_ite (kp5_ite (kp5_ite (k5_X7_endSwitch_99 N (CS.setI p18.2 36 1)) (kp5_bind (k5_X6_isGoneTo N p18.2 x1 0) (fun p29 => (kp5_ite (k5_X7_endSwitch_99 N (CS.setI p29.2 36 0)) (k5_X7_endSwitch_99 N (CS.setI p29.2 36 1)))))) kp5_none) (k5_X7_endSwitch_99 N (CS.setI p18.2 36 1))))) kp5_none)
theorem k5_X7_endSwitch (N : Nat) (σ : CS) (x1 : Nat) : Kp5 (CS.i σ 5) (f_X7_endSwitch N σ x1) := by
  unfold f_X7_endSwitch
  exact (kp5_ite (kp5_bind (k5_X0_add N σ 30 (CS.o σ x1 9)) (fun p2 => (kp5_ite (kp5_bind (k5_X0_aim N p2.2 (CS.o p2.2 x1 10)) (fun p7 => (kp5_ite (kp5_ite (kp5_bind (k5_X0_addCases N p7.2 (CS.o p7.2 x1 13) (CS.o p7.2 x1 9)) (fun p13 => (k5_X7_endSwitch_53 N p13.2 x1))) (kp5_bind (k5_X0_addCases N p7.2 (CS.o p7.2 x1 13) (CS.o p7.2 x1 11)) (fun p34 => (k5_X7_endSwitch_53 N p34.2 x1)))) kp5_none))) kp5_none))) kp5_none)
theorem k5_X7_endGuarded_66 (N : Nat) (σ : CS) (x1 : Nat) : Kp5 (CS.i σ 5) (f_X7_endGuarded_66 N σ x1) := by
  unfold f_X7_endGuarded_66
  exact (kp5_ite (kp5_some (rfl)) kp5_none)
theorem k5_X7_endGuarded_46 (N : Nat) (σ : CS) (x1 : Nat) : Kp5 (CS.i σ 5) (f_X7_endGuarded_46 N σ x1) := by
  unfold f_X7_endGuarded_46
  exact (kp5_bind (k5_X1_found N σ 215) (fun p13 => (kp5_ite (kp5_bind (k5_X1_found N p13.2 216) (fun p19 => (kp5_ite (kp5_ite (kp5_ite (kp5_bind (k5_X1_misplaced N p19.2) (fun p26 => (kp5_some (rfl)))) (kp5_bind (k5_X0_add N p19.2 58 0) (fun p30 => (kp5_ite (kp5_bind (k5_X0_aim N p30.2 (CS.o p30.2 x1 9)) (fun p35 => (kp5_ite (kp5_ite (kp5_bind (k5_X6_pop N (CS.setI (CS.setI p35.2 36 (CS.o p35.2 x1 6)) 38 ((p35.2.i 38) - 1))) (fun p41 => (kp5_some (rfl)))) kp5_none) kp5_none))) kp5_none)))) kp5_none) (k5_X7_endGuarded_66 N p19.2 x1)))) (k5_X7_endGuarded_66 N p13.2 x1))))
theorem k5_X7_endGuarded (N : Nat) (σ : CS) (x1 : Nat) : Kp5 (CS.i σ 5) (f_X7_endGuarded N σ x1) := by
  unfold f_X7_endGuarded
  exact (kp5_ite (kp5_bind (k5_X7_leave N σ (CS.o σ x1 9) (CS.o σ x1 2)) (fun p2 => (kp5_ite (kp5_bind (k5_X0_aim N p2.2 (CS.o p2.2 x1 10)) (fun p7 => (kp5_ite (kp5_ite (kp5_ite (k5_X7_endGuarded_46 N (CS.setO p7.2 x1 6 0) x1) (k5_X7_endGuarded_46 N (CS.setO p7.2 x1 6 1) x1)) (k5_X7_endGuarded_46 N (CS.setO p7.2 x1 6 1) x1)) kp5_none))) kp5_none))) kp5_none)
theorem kb5_X6_loseJumps_2 (N : Nat) (K : CS → Int32 → Int32 → Option (Unit × CS)) (hMK : ∀ (σ : CS) (x2 : Int32) (x3 : Int32), Kp5 (CS.i σ 5) (K σ x2 x3)) (σ : CS) (x2 : Int32) (x3 : Int32) : Kp5 (CS.i σ 5) (b_X6_loseJumps_2 N K σ x2 x3) := by
  unfold b_X6_loseJumps_2
  exact (kp5_ite (kp5_some (rfl)) (hMK (CS.putA σ 52 (gPut (σ.a 52) 160 x3 0)) x2 (x3 + 1)))
theorem k5_X6_loseJumps_2 (N : Nat) : ∀ (n : Nat) (σ : CS) (x2 : Int32) (x3 : Int32), Kp5 (CS.i σ 5) (f_X6_loseJumps_2 N n σ x2 x3)
  | 0, _, _, _ => kp5_none
  | n+1, σ, x2, x3 => kb5_X6_loseJumps_2 N (f_X6_loseJumps_2 N n) (fun σ x2 x3 => k5_X6_loseJumps_2 N n σ x2 x3) σ x2 x3
theorem k5_X6_loseJumps (N : Nat) (σ : CS) (x1 : Int32) (x2 : Int32) : Kp5 (CS.i σ 5) (f_X6_loseJumps N σ x1 x2) := by
  unfold f_X6_loseJumps
  exact (k5_X6_loseJumps_2 N N σ x2 x1)
theorem k5_X7_endFinally_66 (N : Nat) (σ : CS) : Kp5 (CS.i σ 5) (f_X7_endFinally_66 N σ ) := by
  unfold f_X7_endFinally_66
  exact (kp5_bind (k5_X6_pop N (CS.setI σ 38 ((σ.i 38) - 1))) (fun p12 => (kp5_some (rfl))))
theorem k5_X7_endFinally_43 (N : Nat) (σ : CS) (x1 : Nat) : Kp5 (CS.i σ 5) (f_X7_endFinally_43 N σ x1) := by
  unfold f_X7_endFinally_43
  exact (kp5_ite (k5_X7_endFinally_66 N (CS.setI σ 36 0)) (kp5_ite (kp5_ite (k5_X7_endFinally_66 N (CS.setI σ 36 0)) (k5_X7_endFinally_66 N (CS.setI σ 36 1))) kp5_none))
theorem k5_X7_endFinally (N : Nat) (σ : CS) (x1 : Nat) : Kp5 (CS.i σ 5) (f_X7_endFinally N σ x1) := by
  unfold f_X7_endFinally
  exact (kp5_bind (k5_X0_add N σ 59 0) (fun p1 => (kp5_ite (kp5_bind (k5_X0_aim N p1.2 (CS.o p1.2 x1 9)) (fun p6 => (kp5_ite (kp5_ite (kp5_bind (k5_X6_loseJumps N p6.2 (CS.o p6.2 x1 14) (CS.o p6.2 x1 15)) (fun p19 => (k5_X7_endFinally_43 N p19.2 x1))) kp5_none) (k5_X7_endFinally_43 N p6.2 x1)))) kp5_none)))
theorem k5_X7_endList_72 (N : Nat) (σ : CS) (x1 : Nat) : Kp5 (CS.i σ 5) (f_X7_endList_72 N σ x1) := by
  unfold f_X7_endList_72
  exact (kp5_bind (k5_X1_close N σ 125) (fun p4 => (kp5_ite (kp5_ite (kp5_bind (k5_X7_endLock N (CS.setI p4.2 50 (CS.o p4.2 x1 3)) x1) (fun p10 => (kp5_some (rfl)))) (kp5_ite (kp5_bind (k5_X7_endGuarded N (CS.setI p4.2 50 (CS.o p4.2 x1 3)) x1) (fun p15 => (kp5_some (rfl)))) (kp5_ite (kp5_bind (k5_X6_pop N (CS.setI p4.2 50 (CS.o p4.2 x1 3))) (fun p20 => (kp5_some (rfl)))) (kp5_ite (kp5_bind (k5_X7_endGuarded N (CS.setI p4.2 50 (CS.o p4.2 x1 3)) x1) (fun p25 => (kp5_some (rfl)))) (kp5_ite (kp5_bind (k5_X7_endFinally N (CS.setI p4.2 50 (CS.o p4.2 x1 3)) x1) (fun p30 => (kp5_some (rfl)))) (kp5_ite (kp5_bind (k5_X6_pop N (CS.setI p4.2 50 (CS.o p4.2 x1 3))) (fun p35 => (kp5_some (rfl)))) (kp5_ite (kp5_bind (k5_X7_endSwitch N (CS.setI p4.2 50 (CS.o p4.2 x1 3)) x1) (fun p40 => (kp5_some (rfl)))) (kp5_bind (k5_X6_pop N (CS.setI p4.2 50 (CS.o p4.2 x1 3))) (fun p44 => (kp5_some (rfl))))))))))) kp5_none)))
theorem k5_X7_endList (N : Nat) (σ : CS) (x1 : Nat) : Kp5 (CS.i σ 5) (f_X7_endList N σ x1) := by
  unfold f_X7_endList
  exact (kp5_ite (kp5_ite (kp5_bind (k5_X1_expect N σ 0) (fun p53 => (kp5_ite (kp5_bind (k5_X0_add N (CS.setI p53.2 27 (p53.2.i 36)) 50 0) (fun p58 => (kp5_bind (k5_X6_pop N p58.2) (fun p62 => (kp5_some (rfl)))))) kp5_none))) (kp5_ite (kp5_ite (k5_X7_endList_72 N σ x1) (kp5_bind (k5_X7_notReached N σ (σ.i 44)) (fun p49 => (k5_X7_endList_72 N p49.2 x1)))) (k5_X7_endList_72 N σ x1))) kp5_none)
theorem k5_X7_groupTurn_87 (N : Nat) (E1 : CS → Option (Unit × CS)) (E2 : CS → Option (Int32 × CS)) (hm1 : ∀ σ, Kp5 (CS.i σ 5) (E1 σ)) (hm2 : ∀ σ, Kp5 (CS.i σ 5) (E2 σ)) (σ : CS) (x1 : Nat) (x2 : Int32) : Kp5 (CS.i σ 5) (f_X7_groupTurn_87 N E1 E2 σ x1 x2) := by
  unfold f_X7_groupTurn_87
  exact (kp5_bind (k5_X1_expect N σ 58) (fun p21 => (kp5_bind (k5_X0_aim N p21.2 x2) (fun p25 => (kp5_ite (kp5_some (rfl)) kp5_none)))))
theorem k5_X7_groupTurn_59 (N : Nat) (E1 : CS → Option (Unit × CS)) (E2 : CS → Option (Int32 × CS)) (hm1 : ∀ σ, Kp5 (CS.i σ 5) (E1 σ)) (hm2 : ∀ σ, Kp5 (CS.i σ 5) (E2 σ)) (σ : CS) (x1 : Nat) (x2 : Int32) (x3 : Int32) : Kp5 (CS.i σ 5) (f_X7_groupTurn_59 N E1 E2 σ x1 x2 x3) := by
  unfold f_X7_groupTurn_59
  exact (kp5_bind (k5_X9_advance N σ) (fun p15 => (kp5_ite (kp5_ite (k5_X7_groupTurn_87 N E1 E2 hm1 hm2 (CS.setO p15.2 x1 11 x2) x1 x2) kp5_none) (kp5_ite (kp5_bind (k5_X1_caseNumber N p15.2 (CS.o p15.2 x1 13) x2) (fun p31 => (k5_X7_groupTurn_87 N E1 E2 hm1 hm2 p31.2 x1 x2))) kp5_none))))
theorem k5_X7_groupTurn_20 (N : Nat) (E1 : CS → Option (Unit × CS)) (E2 : CS → Option (Int32 × CS)) (hm1 : ∀ σ, Kp5 (CS.i σ 5) (E1 σ)) (hm2 : ∀ σ, Kp5 (CS.i σ 5) (E2 σ)) (σ : CS) (x1 : Nat) : Kp5 (CS.i σ 5) (f_X7_groupTurn_20 N E1 E2 σ x1) := by
  unfold f_X7_groupTurn_20
  exact (kp5_bind (k5_X0_newTarget N σ) (fun p6 => (kp5_bind (k5_X1_found N p6.2 219) (fun p10 => (kp5_ite (kp5_ite (kp5_ite (k5_X7_groupTurn_59 N E1 E2 hm1 hm2 p10.2 x1 p6.1 p10.1) (kp5_bind (k5_X1_fail N p10.2 4 (p10.2.i 44)) (fun p37 => (k5_X7_groupTurn_59 N E1 E2 hm1 hm2 p37.2 x1 p6.1 p10.1)))) kp5_none) (k5_X7_groupTurn_59 N E1 E2 hm1 hm2 p10.2 x1 p6.1 p10.1))))))
theorem k5_X7_groupTurn (N : Nat) (E1 : CS → Option (Unit × CS)) (E2 : CS → Option (Int32 × CS)) (hm1 : ∀ σ, Kp5 (CS.i σ 5) (E1 σ)) (hm2 : ∀ σ, Kp5 (CS.i σ 5) (E2 σ)) (σ : CS) (x1 : Nat) : Kp5 (CS.i σ 5) (f_X7_groupTurn N E1 E2 σ x1) := by
  unfold f_X7_groupTurn
  exact (kp5_bind (k5_X1_found N σ 219) (fun p1 => (kp5_ite (kp5_bind (k5_X1_found N p1.2 220) (fun p41 => (kp5_ite (kp5_ite (kp5_ite (kp5_bind (k5_X1_misplaced N p41.2) (fun p48 => (kp5_some (rfl)))) (kp5_bind (k5_X7_statement N E1 E2 hm1 hm2 p41.2 0) (fun p52 => (kp5_some (rfl))))) kp5_none) (k5_X7_groupTurn_20 N E1 E2 hm1 hm2 p41.2 x1)))) (k5_X7_groupTurn_20 N E1 E2 hm1 hm2 p1.2 x1))))
theorem kb5_X7_turns_2 (N : Nat) (E1 : CS → Option (Unit × CS)) (E2 : CS → Option (Int32 × CS)) (hm1 : ∀ σ, Kp5 (CS.i σ 5) (E1 σ)) (hm2 : ∀ σ, Kp5 (CS.i σ 5) (E2 σ)) (K : CS → Int32 → Int32 → Option (Unit × CS)) (hMK : ∀ (σ : CS) (x1 : Int32) (x2 : Int32), Kp5 (CS.i σ 5) (K σ x1 x2)) (σ : CS) (x1 : Int32) (x2 : Int32) : Kp5 (CS.i σ 5) (b_X7_turns_2 N E1 E2 K σ x1 x2) := by
  unfold b_X7_turns_2
  exact (kp5_ite (kp5_ite kp5_none (kp5_some (rfl))) (kp5_ite (kp5_ite (kp5_some (rfl)) (kp5_bind (k5_X6_row N σ ((σ.i 53) - 1)) (fun p4 => (kp5_oc (kp5_some (rfl)) (fun a9 => (kp5_ite (kp5_bind (k5_X5_hasOneBody N p4.2 a9) (fun p12 => (kp5_ite (kp5_ite (kp5_ite (kp5_bind (k5_X1_found N p12.2 215) (fun p47 => (kp5_ite (kp5_ite (kp5_ite (kp5_bind (k5_X7_beginFinally N p47.2 a9) (fun p82 => (hMK p82.2 x1 (x2 + 1)))) (kp5_bind (k5_X1_found N p47.2 125) (fun p54 => (kp5_ite (kp5_bind (k5_X1_found N p54.2 0) (fun p63 => (kp5_ite (kp5_ite (kp5_ite (kp5_bind (k5_X7_groupTurn N E1 E2 hm1 hm2 p63.2 a9) (fun p74 => (hMK p74.2 x1 (x2 + 1)))) (kp5_bind (k5_X7_statement N E1 E2 hm1 hm2 p63.2 0) (fun p70 => (hMK p70.2 x1 (x2 + 1))))) kp5_none) (kp5_bind (k5_X7_endList N p63.2 a9) (fun p78 => (hMK p78.2 x1 (x2 + 1))))))) (kp5_bind (k5_X7_endList N p54.2 a9) (fun p59 => (hMK p59.2 x1 (x2 + 1)))))))) kp5_none) (kp5_bind (k5_X7_beginCatch N p47.2 a9) (fun p86 => (hMK p86.2 x1 (x2 + 1))))))) (kp5_bind (k5_X1_found N p12.2 125) (fun p19 => (kp5_ite (kp5_bind (k5_X1_found N p19.2 0) (fun p28 => (kp5_ite (kp5_ite (kp5_ite (kp5_bind (k5_X7_groupTurn N E1 E2 hm1 hm2 p28.2 a9) (fun p39 => (hMK p39.2 x1 (x2 + 1)))) (kp5_bind (k5_X7_statement N E1 E2 hm1 hm2 p28.2 0) (fun p35 => (hMK p35.2 x1 (x2 + 1))))) kp5_none) (kp5_bind (k5_X7_endList N p28.2 a9) (fun p43 => (hMK p43.2 x1 (x2 + 1))))))) (kp5_bind (k5_X7_endList N p19.2 a9) (fun p24 => (hMK p24.2 x1 (x2 + 1)))))))) kp5_none) (kp5_bind (k5_X7_bodyTurn N E1 E2 hm1 hm2 p12.2 a9) (fun p90 => (hMK p90.2 x1 (x2 + 1))))))) kp5_none)))))) (kp5_some (rfl))))
theorem k5_X7_turns_2 (N : Nat) (E1 : CS → Option (Unit × CS)) (E2 : CS → Option (Int32 × CS)) (hm1 : ∀ σ, Kp5 (CS.i σ 5) (E1 σ)) (hm2 : ∀ σ, Kp5 (CS.i σ 5) (E2 σ)) : ∀ (n : Nat) (σ : CS) (x1 : Int32) (x2 : Int32), Kp5 (CS.i σ 5) (f_X7_turns_2 N E1 E2 n σ x1 x2)
  | 0, _, _, _ => kp5_none
  | n+1, σ, x1, x2 => kb5_X7_turns_2 N E1 E2 hm1 hm2 (f_X7_turns_2 N E1 E2 n) (fun σ x1 x2 => k5_X7_turns_2 N E1 E2 hm1 hm2 n σ x1 x2) σ x1 x2
theorem k5_X7_turns (N : Nat) (E1 : CS → Option (Unit × CS)) (E2 : CS → Option (Int32 × CS)) (hm1 : ∀ σ, Kp5 (CS.i σ 5) (E1 σ)) (hm2 : ∀ σ, Kp5 (CS.i σ 5) (E2 σ)) (σ : CS) (x1 : Int32) : Kp5 (CS.i σ 5) (f_X7_turns N E1 E2 σ x1) := by
  unfold f_X7_turns
  exact (k5_X7_turns_2 N E1 E2 hm1 hm2 N σ x1 0)
theorem k5_X7_armBlock (N : Nat) (E1 : CS → Option (Unit × CS)) (E2 : CS → Option (Int32 × CS)) (hm1 : ∀ σ, Kp5 (CS.i σ 5) (E1 σ)) (hm2 : ∀ σ, Kp5 (CS.i σ 5) (E2 σ)) (σ : CS) (x1 : Int32) : Kp5 (CS.i σ 5) (f_X7_armBlock N E1 E2 σ x1) := by
  unfold f_X7_armBlock
  exact (kp5_bind (k5_X1_open N σ 123) (fun p1 => (kp5_bind (k5_X6_push N p1.2 302 (p1.2.i 38) (p1.2.i 50)) (fun p5 => (kp5_oc kp5_none (fun a10 => (kp5_ite (kp5_bind (k5_X7_turns N E1 E2 hm1 hm2 (CS.setI (CS.setI (CS.setO (CS.setO p5.2 a10 9 x1) a10 16 (p5.2.i 56)) 56 (σ.i 53)) 36 1) (σ.i 53)) (fun p12 => (kp5_ite (kp5_ite (kp5_some (rfl)) kp5_none) kp5_none))) kp5_none)))))))
theorem k5_X1_arm_153 (N : Nat) (E1 : CS → Option (Unit × CS)) (E2 : CS → Option (Int32 × CS)) (hm1 : ∀ σ, Kp5 (CS.i σ 5) (E1 σ)) (hm2 : ∀ σ, Kp5 (CS.i σ 5) (E2 σ)) (σ : CS) (x5 : Int32) : Kp5 (CS.i σ 5) (f_X1_arm_153 N E1 E2 σ x5) := by
  unfold f_X1_arm_153
  exact (kp5_some (rfl))
theorem k5_X1_arm_100 (N : Nat) (E1 : CS → Option (Unit × CS)) (E2 : CS → Option (Int32 × CS)) (hm1 : ∀ σ, Kp5 (CS.i σ 5) (E1 σ)) (hm2 : ∀ σ, Kp5 (CS.i σ 5) (E2 σ)) (σ : CS) (x3 : Int32) (x4 : Int32) (x5 : Int32) : Kp5 (CS.i σ 5) (f_X1_arm_100 N E1 E2 σ x3 x4 x5) := by
  unfold f_X1_arm_100
  exact (kp5_bind (k5_X1_expect N σ 134) (fun p19 => (kp5_bind (k5_X0_aim N p19.2 x4) (fun p23 => (kp5_bind (k5_X1_found N p23.2 123) (fun p27 => (kp5_ite (kp5_bind (k5_X1_expression N E1 E2 hm1 hm2 p27.2) (fun p32 => (kp5_bind (k5_X1_expect N p32.2 59) (fun p36 => (kp5_bind (k5_X0_add N p36.2 30 x3) (fun p40 => (k5_X1_arm_153 N E1 E2 hm1 hm2 p40.2 x5))))))) (kp5_bind (k5_X7_armBlock N E1 E2 hm1 hm2 p27.2 x3) (fun p44 => (k5_X1_arm_153 N E1 E2 hm1 hm2 p44.2 x5))))))))))
theorem kb5_X1_arm_70 (N : Nat) (E1 : CS → Option (Unit × CS)) (E2 : CS → Option (Int32 × CS)) (hm1 : ∀ σ, Kp5 (CS.i σ 5) (E1 σ)) (hm2 : ∀ σ, Kp5 (CS.i σ 5) (E2 σ)) (K : CS → Int32 → Int32 → Int32 → Int32 → Int32 → Option (Int32 × CS)) (hMK : ∀ (σ : CS) (x1 : Int32) (x3 : Int32) (x4 : Int32) (x5 : Int32) (x6 : Int32), Kp5 (CS.i σ 5) (K σ x1 x3 x4 x5 x6)) (σ : CS) (x1 : Int32) (x3 : Int32) (x4 : Int32) (x5 : Int32) (x6 : Int32) : Kp5 (CS.i σ 5) (b_X1_arm_70 N E1 E2 K σ x1 x3 x4 x5 x6) := by
  unfold b_X1_arm_70
  exact (kp5_ite (k5_X1_arm_100 N E1 E2 hm1 hm2 σ x3 x4 x5) (kp5_bind (k5_X1_skip N σ 44) (fun p48 => (kp5_ite (k5_X1_arm_100 N E1 E2 hm1 hm2 p48.2 x3 x4 x5) (kp5_bind (k5_X1_caseNumber N p48.2 x1 x4) (fun p53 => (hMK p53.2 x1 x3 x4 x5 (x6 + 1))))))))
theorem k5_X1_arm_70 (N : Nat) (E1 : CS → Option (Unit × CS)) (E2 : CS → Option (Int32 × CS)) (hm1 : ∀ σ, Kp5 (CS.i σ 5) (E1 σ)) (hm2 : ∀ σ, Kp5 (CS.i σ 5) (E2 σ)) : ∀ (n : Nat) (σ : CS) (x1 : Int32) (x3 : Int32) (x4 : Int32) (x5 : Int32) (x6 : Int32), Kp5 (CS.i σ 5) (f_X1_arm_70 N E1 E2 n σ x1 x3 x4 x5 x6)
  | 0, _, _, _, _, _, _ => kp5_none
  | n+1, σ, x1, x3, x4, x5, x6 => kb5_X1_arm_70 N E1 E2 hm1 hm2 (f_X1_arm_70 N E1 E2 n) (fun σ x1 x3 x4 x5 x6 => k5_X1_arm_70 N E1 E2 hm1 hm2 n σ x1 x3 x4 x5 x6) σ x1 x3 x4 x5 x6
theorem k5_X1_arm_39 (N : Nat) (E1 : CS → Option (Unit × CS)) (E2 : CS → Option (Int32 × CS)) (hm1 : ∀ σ, Kp5 (CS.i σ 5) (E1 σ)) (hm2 : ∀ σ, Kp5 (CS.i σ 5) (E2 σ)) (σ : CS) (x3 : Int32) (x4 : Int32) : Kp5 (CS.i σ 5) (f_X1_arm_39 N E1 E2 σ x3 x4) := by
  unfold f_X1_arm_39
  exact (kp5_bind (k5_X9_advance N σ) (fun p58 => (k5_X1_arm_100 N E1 E2 hm1 hm2 p58.2 x3 x4 x4)))
theorem k5_X1_arm (N : Nat) (E1 : CS → Option (Unit × CS)) (E2 : CS → Option (Int32 × CS)) (hm1 : ∀ σ, Kp5 (CS.i σ 5) (E1 σ)) (hm2 : ∀ σ, Kp5 (CS.i σ 5) (E2 σ)) (σ : CS) (x1 : Int32) (x2 : Int32) (x3 : Int32) : Kp5 (CS.i σ 5) (f_X1_arm N E1 E2 σ x1 x2 x3) := by
  unfold f_X1_arm
  exact (kp5_bind (k5_X0_newTarget N σ) (fun p1 => (kp5_bind (k5_X1_found N p1.2 220) (fun p5 => (kp5_ite (kp5_bind (k5_X9_advance N p5.2) (fun p10 => (kp5_bind (k5_X1_caseNumber N p10.2 x1 p1.1) (fun p14 => (k5_X1_arm_70 N E1 E2 hm1 hm2 N p14.2 x1 x3 p1.1 x2 0))))) (kp5_ite (k5_X1_arm_39 N E1 E2 hm1 hm2 p5.2 x3 p1.1) (kp5_bind (k5_X1_fail N p5.2 4 (p5.2.i 44)) (fun p62 => (k5_X1_arm_39 N E1 E2 hm1 hm2 p62.2 x3 p1.1)))))))))
theorem k5_X1_choice_122 (N : Nat) (E1 : CS → Option (Unit × CS)) (E2 : CS → Option (Int32 × CS)) (hm1 : ∀ σ, Kp5 (CS.i σ 5) (E1 σ)) (hm2 : ∀ σ, Kp5 (CS.i σ 5) (E2 σ)) (σ : CS) (x1 : Int32) (x2 : Int32) (x3 : Int32) (x4 : Int32) : Kp5 (CS.i σ 5) (f_X1_choice_122 N E1 E2 σ x1 x2 x3 x4) := by
  unfold f_X1_choice_122
  exact (kp5_bind (k5_X1_close N σ 125) (fun p35 => (kp5_bind (k5_X0_aim N p35.2 x1) (fun p39 => (kp5_bind (k5_X0_addCases N p39.2 x3 x4) (fun p43 => (kp5_bind (k5_X0_aim N p43.2 x2) (fun p47 => (kp5_some (rfl))))))))))
theorem k5_X1_choice_113 (N : Nat) (E1 : CS → Option (Unit × CS)) (E2 : CS → Option (Int32 × CS)) (hm1 : ∀ σ, Kp5 (CS.i σ 5) (E1 σ)) (hm2 : ∀ σ, Kp5 (CS.i σ 5) (E2 σ)) (σ : CS) (x1 : Int32) (x2 : Int32) (x3 : Int32) (x4 : Int32) : Kp5 (CS.i σ 5) (f_X1_choice_113 N E1 E2 σ x1 x2 x3 x4) := by
  unfold f_X1_choice_113
  exact (kp5_ite (k5_X1_choice_122 N E1 E2 hm1 hm2 σ x1 x2 x3 x4) (kp5_bind (k5_X1_misplaced N σ) (fun p51 => (k5_X1_choice_122 N E1 E2 hm1 hm2 p51.2 x1 x2 x3 x4))))
theorem kb5_X1_choice_69 (N : Nat) (E1 : CS → Option (Unit × CS)) (E2 : CS → Option (Int32 × CS)) (hm1 : ∀ σ, Kp5 (CS.i σ 5) (E1 σ)) (hm2 : ∀ σ, Kp5 (CS.i σ 5) (E2 σ)) (K : CS → Int32 → Int32 → Int32 → Int32 → Int32 → Option (Unit × CS)) (hMK : ∀ (σ : CS) (x1 : Int32) (x2 : Int32) (x3 : Int32) (x4 : Int32) (x5 : Int32), Kp5 (CS.i σ 5) (K σ x1 x2 x3 x4 x5)) (σ : CS) (x1 : Int32) (x2 : Int32) (x3 : Int32) (x4 : Int32) (x5 : Int32) : Kp5 (CS.i σ 5) (b_X1_choice_69 N E1 E2 K σ x1 x2 x3 x4 x5) := by
  unfold b_X1_choice_69
  exact (kp5_ite (k5_X1_choice_113 N E1 E2 hm1 hm2 σ x1 x2 x3 x4) (kp5_bind (k5_X1_found N σ 219) (fun p55 => (kp5_ite (kp5_bind (k5_X1_found N p55.2 220) (fun p64 => (kp5_ite (k5_X1_choice_113 N E1 E2 hm1 hm2 p64.2 x1 x2 x3 x4) (kp5_bind (k5_X1_arm N E1 E2 hm1 hm2 p64.2 x3 x4 x2) (fun p69 => (hMK p69.2 x1 x2 x3 p69.1 (x5 + 1))))))) (kp5_bind (k5_X1_arm N E1 E2 hm1 hm2 p55.2 x3 x4 x2) (fun p60 => (hMK p60.2 x1 x2 x3 p60.1 (x5 + 1))))))))
theorem k5_X1_choice_69 (N : Nat) (E1 : CS → Option (Unit × CS)) (E2 : CS → Option (Int32 × CS)) (hm1 : ∀ σ, Kp5 (CS.i σ 5) (E1 σ)) (hm2 : ∀ σ, Kp5 (CS.i σ 5) (E2 σ)) : ∀ (n : Nat) (σ : CS) (x1 : Int32) (x2 : Int32) (x3 : Int32) (x4 : Int32) (x5 : Int32), Kp5 (CS.i σ 5) (f_X1_choice_69 N E1 E2 n σ x1 x2 x3 x4 x5)
  | 0, _, _, _, _, _, _ => kp5_none
  | n+1, σ, x1, x2, x3, x4, x5 => kb5_X1_choice_69 N E1 E2 hm1 hm2 (f_X1_choice_69 N E1 E2 n) (fun σ x1 x2 x3 x4 x5 => k5_X1_choice_69 N E1 E2 hm1 hm2 n σ x1 x2 x3 x4 x5) σ x1 x2 x3 x4 x5
theorem k5_X1_choice (N : Nat) (E1 : CS → Option (Unit × CS)) (E2 : CS → Option (Int32 × CS)) (hm1 : ∀ σ, Kp5 (CS.i σ 5) (E1 σ)) (hm2 : ∀ σ, Kp5 (CS.i σ 5) (E2 σ)) (σ : CS) : Kp5 (CS.i σ 5) (f_X1_choice N E1 E2 σ) := by
  unfold f_X1_choice
  exact (kp5_bind (k5_X9_advance N σ) (fun p1 => (kp5_bind (k5_X1_open N p1.2 40) (fun p5 => (kp5_bind (k5_X1_expression N E1 E2 hm1 hm2 p5.2) (fun p9 => (kp5_bind (k5_X1_close N p9.2 41) (fun p13 => (kp5_bind (k5_X1_open N p13.2 123) (fun p17 => (kp5_bind (k5_X0_newTarget N p17.2) (fun p21 => (kp5_bind (k5_X0_newTarget N p21.2) (fun p25 => (kp5_bind (k5_X0_add N p25.2 30 p21.1) (fun p29 => (k5_X1_choice_69 N E1 E2 hm1 hm2 N p29.2 p21.1 p25.1 (p25.2.i 22) (-1) 0)))))))))))))))))
theorem k5_X1_factor (N : Nat) (E1 : CS → Option (Unit × CS)) (E2 : CS → Option (Int32 × CS)) (hm1 : ∀ σ, Kp5 (CS.i σ 5) (E1 σ)) (hm2 : ∀ σ, Kp5 (CS.i σ 5) (E2 σ)) (σ : CS) : Kp5 (CS.i σ 5) (f_X1_factor N E1 E2 σ) := by
  unfold f_X1_factor
  exact (kp5_ite (kp5_bind (k5_X0_add N σ 0 (σ.i 45)) (fun p2 => (kp5_bind (k5_X9_advance N p2.2) (fun p6 => (kp5_some (rfl)))))) (kp5_ite (kp5_bind (k5_X1_loadName N σ) (fun p11 => (kp5_some (rfl)))) (kp5_ite (kp5_bind (k5_X1_open N σ 40) (fun p16 => (kp5_bind (k5_X1_expression N E1 E2 hm1 hm2 p16.2) (fun p20 => (kp5_bind (k5_X1_close N p20.2 41) (fun p24 => (kp5_some (rfl)))))))) (kp5_ite (kp5_bind (k5_X1_negated N E1 E2 hm1 hm2 σ) (fun p29 => (kp5_some (rfl)))) (kp5_ite (kp5_bind (k5_X1_choice N E1 E2 hm1 hm2 σ) (fun p34 => (kp5_some (rfl)))) (kp5_bind (k5_X1_misplaced N σ) (fun p38 => (kp5_some (rfl)))))))))
theorem k5_X1_comparing (N : Nat) (σ : CS) (x0 : Int32) : Kp5 (CS.i σ 5) (f_X1_comparing N σ x0) := by
  unfold f_X1_comparing
  exact (kp5_ite (kp5_some (rfl)) (kp5_ite (kp5_some (rfl)) (kp5_ite (kp5_some (rfl)) (kp5_ite (kp5_some (rfl)) (kp5_ite (kp5_some (rfl)) (kp5_ite (kp5_some (rfl)) (kp5_some (rfl))))))))
theorem k5_X1_comparison (N : Nat) (E1 : CS → Option (Unit × CS)) (E2 : CS → Option (Int32 × CS)) (hm1 : ∀ σ, Kp5 (CS.i σ 5) (E1 σ)) (hm2 : ∀ σ, Kp5 (CS.i σ 5) (E2 σ)) (σ : CS) : Kp5 (CS.i σ 5) (f_X1_comparison N E1 E2 σ) := by
  unfold f_X1_comparison
  exact (kp5_bind (k5_X1_expression N E1 E2 hm1 hm2 σ) (fun p1 => (kp5_bind (k5_X1_comparing N p1.2 (p1.2.i 43)) (fun p5 => (kp5_ite (kp5_bind (k5_X9_advance N p5.2) (fun p10 => (kp5_bind (k5_X1_expression N E1 E2 hm1 hm2 p10.2) (fun p14 => (kp5_bind (k5_X0_add N p14.2 p5.1 0) (fun p18 => (kp5_some (rfl)))))))) (kp5_bind (k5_X1_misplaced N p5.2) (fun p22 => (kp5_some (rfl)))))))))
theorem k5_X1_one_66 (N : Nat) (E1 : CS → Option (Unit × CS)) (E2 : CS → Option (Int32 × CS)) (hm1 : ∀ σ, Kp5 (CS.i σ 5) (E1 σ)) (hm2 : ∀ σ, Kp5 (CS.i σ 5) (E2 σ)) (σ : CS) : Kp5 (CS.i σ 5) (f_X1_one_66 N E1 E2 σ ) := by
  unfold f_X1_one_66
  exact (kp5_bind (k5_X0_add N (CS.setI σ 34 ((σ.i 34) - 1)) 5 0) (fun p7 => (kp5_some (rfl))))
theorem k5_X1_one (N : Nat) (E1 : CS → Option (Unit × CS)) (E2 : CS → Option (Int32 × CS)) (hm1 : ∀ σ, Kp5 (CS.i σ 5) (E1 σ)) (hm2 : ∀ σ, Kp5 (CS.i σ 5) (E2 σ)) (σ : CS) : Kp5 (CS.i σ 5) (f_X1_one N E1 E2 σ) := by
  unfold f_X1_one
  exact (kp5_ite (kp5_bind (k5_X1_open N σ 33) (fun p2 => (kp5_ite (kp5_bind (hm2 p2.2) (fun p11 => (k5_X1_one_66 N E1 E2 hm1 hm2 p11.2))) (k5_X1_one_66 N E1 E2 hm1 hm2 p2.2)))) (kp5_ite (kp5_bind (k5_X1_open N σ 91) (fun p16 => (kp5_bind (k5_X1_condition N E1 E2 hm1 hm2 p16.2) (fun p20 => (kp5_bind (k5_X1_close N p20.2 93) (fun p24 => (kp5_some (rfl)))))))) (kp5_ite (kp5_bind (k5_X0_add N σ 0 1) (fun p29 => (kp5_bind (k5_X9_advance N p29.2) (fun p33 => (kp5_some (rfl)))))) (kp5_ite (kp5_bind (k5_X0_add N σ 0 0) (fun p38 => (kp5_bind (k5_X9_advance N p38.2) (fun p42 => (kp5_some (rfl)))))) (kp5_bind (k5_X1_comparison N E1 E2 hm1 hm2 σ) (fun p46 => (kp5_some (rfl))))))))
theorem k5_X6_clear (N : Nat) (σ : CS) : Kp5 (CS.i σ 5) (f_X6_clear N σ) := by
  unfold f_X6_clear
  exact (kp5_some (rfl))
theorem k5_X9_start (N : Nat) (σ : CS) (x1 : Int32) : Kp5 (CS.i σ 5) (f_X9_start N σ x1) := by
  unfold f_X9_start
  exact (kp5_bind (k5_X9_advance N (CS.setI (CS.setI σ 41 x1) 42 0)) (fun p1 => (kp5_some (rfl))))
theorem k5_X7_translate_139 (N : Nat) (E1 : CS → Option (Unit × CS)) (E2 : CS → Option (Int32 × CS)) (hm1 : ∀ σ, Kp5 (CS.i σ 5) (E1 σ)) (hm2 : ∀ σ, Kp5 (CS.i σ 5) (E2 σ)) (σ : CS) : Kp5 (CS.i σ 5) (f_X7_translate_139 N E1 E2 σ ) := by
  unfold f_X7_translate_139
  exact (kp5_some (rfl))
theorem k5_X7_translate (N : Nat) (E1 : CS → Option (Unit × CS)) (E2 : CS → Option (Int32 × CS)) (hm1 : ∀ σ, Kp5 (CS.i σ 5) (E1 σ)) (hm2 : ∀ σ, Kp5 (CS.i σ 5) (E2 σ)) (σ : CS) (x1 : Int32) : Kp5 (CS.i σ 5) (f_X7_translate N E1 E2 σ x1) := by
  unfold f_X7_translate
  exact (kp5_bind (k5_X0_clear N σ) (fun p1 => (kp5_bind (k5_X0_newCells N (CS.setI p1.2 50 0) 1) (fun p5 => (kp5_bind (k5_X4_add N p5.2 97 p5.1 (-1)) (fun p9 => (kp5_bind (k5_X0_newCells N p9.2 1) (fun p13 => (kp5_bind (k5_X4_add N p13.2 98 p13.1 (-1)) (fun p17 => (kp5_bind (k5_X6_clear N p17.2) (fun p21 => (kp5_bind (k5_X9_start N (CS.setI (CS.setI (CS.setI (CS.setI (CS.setI (CS.setI p21.2 32 0) 33 0) 34 0) 36 1) 37 (-1)) 38 0) x1) (fun p25 => (kp5_bind (k5_X6_push N p25.2 300 0 (p25.2.i 50)) (fun p29 => (kp5_oc (kp5_bind (k5_X7_turns N E1 E2 hm1 hm2 p29.2 0) (fun p35 => (kp5_ite (k5_X7_translate_139 N E1 E2 hm1 hm2 p35.2) (kp5_bind (k5_X1_fail N p35.2 7 (p35.2.i 37)) (fun p40 => (k5_X7_translate_139 N E1 E2 hm1 hm2 p40.2)))))) (fun a34 => (kp5_bind (k5_X7_turns N E1 E2 hm1 hm2 p29.2 0) (fun p44 => (kp5_ite (k5_X7_translate_139 N E1 E2 hm1 hm2 p44.2) (kp5_bind (k5_X1_fail N p44.2 7 (p44.2.i 37)) (fun p49 => (k5_X7_translate_139 N E1 E2 hm1 hm2 p49.2))))))))))))))))))))))))
theorem k5_X10_isFull (N : Nat) (σ : CS) : Kp5 (CS.i σ 5) (f_X10_isFull N σ) := by
  unfold f_X10_isFull
  exact (kp5_ite (kp5_some (rfl)) (kp5_some (rfl)))
theorem k5_X10_addKind (N : Nat) (σ : CS) (x1 : Int32) : Kp5 (CS.i σ 5) (f_X10_addKind N σ x1) := by
  unfold f_X10_addKind
  exact (kp5_some (rfl))
theorem k5_X10_tellResource (N : Nat) (σ : CS) (x1 : Int32) (x2 : Int32) (x3 : Int32) (x4 : Int32) : Kp5 (CS.i σ 5) (f_X10_tellResource N σ x1 x2 x3 x4) := by
  unfold f_X10_tellResource
  exact (kp5_some (rfl))
theorem k5EE (N : Nat) : ∀ d : Nat, (∀ σ, Kp5 (CS.i σ 5) ((fEE N d).1 σ)) ∧ (∀ σ, Kp5 (CS.i σ 5) ((fEE N d).2 σ))
  | 0 => ⟨fun _ => kp5_none, fun _ => kp5_none⟩
  | d+1 => ⟨fun σ => k5_X1_factor N _ _ (k5EE N d).1 (k5EE N d).2 σ, fun σ => k5_X1_one N _ _ (k5EE N d).1 (k5EE N d).2 σ⟩
end
section
/-! the class: every public method answers and keeps what stands -/
theorem CIV.of {h : Nat} {s R : CS} (hc : CIV h s) (hs : HSM s R) (h1 : bo (R.i 14) ∧ (R.i 13).toInt ≤ 12) (h5 : 0 ≤ (R.i 5).toInt ∧ (R.i 5).toInt ≤ 900) (h7 : R.i 7 = s.i 7) (hq : CEQ s R) : CIV h R := by
  obtain ⟨c1, c2, c3, c4, -, -, c7⟩ := hc
  refine ⟨hs.refs c1, hs.room c2, hs.wd c3, fun i a hi e => ?_, h1, h5, fun q => ?_⟩
  · obtain ⟨⟨a1, a2, a3, a4, a5, a6, a7, a8⟩, -⟩ := hs
    rw [a7] at e
    rw [a4]
    exact c4 i a hi e
  · rw [h7] at q
    obtain ⟨D, hD⟩ := c7 q
    exact ⟨D, hq.wt hD⟩
/-- bytes are added -/
def FDB (s R : CS) (n : Int) : Prop := HSM s R ∧ (∀ j : Nat, j ≠ 5 → R.i j = s.i j) ∧ (∀ k : Nat, k ≠ 0 → R.a k = s.a k) ∧ (R.i 5).toInt = (s.i 5).toInt + n
theorem FDB.tr {s R T : CS} {n m : Int} (h : FDB s R n) (g : FDB R T m) : FDB s T (n + m) := ⟨h.1.tr g.1, fun j hj => (g.2.1 j hj).trans (h.2.1 j hj), fun k hk => (g.2.2.1 k hk).trans (h.2.2.1 k hk), by rw [g.2.2.2, h.2.2.2]; omega⟩
theorem q_addB3 {N : Nat} {x1 : Int32} : ∀ (n : Nat) (s : CS) (x2 : Int32) (m : Nat), x2.toInt = 8 * (m : Int) - 8 → m ≤ 4 → m < n → (0 ≤ (s.i 5).toInt ∧ (s.i 5).toInt + (m : Int) ≤ 900) → ok (f_X11_addBytes_3 N n s x1 x2) (fun R => FDB s R.2 (m : Int))
  | 0, _, _, _, _, _, h, _ => by omega
  | n + 1, s, x2, m, hx, hm, hn, h5 => by
    show ok (b_X11_addBytes_3 N (f_X11_addBytes_3 N n) s x1 x2) _
    unfold b_X11_addBytes_3
    refine ok_ite (fun c => ok_some ⟨HSM.rf s, fun _ _ => rfl, fun _ _ => rfl, ?_⟩) (fun c => ?_)
    · have := lt_int c
      rw [z_t0] at this
      show (s.i 5).toInt = (s.i 5).toInt + (m : Int)
      omega
    · have l := le_int (Int32.not_lt.mp c)
      rw [z_t0] at l
      obtain ⟨k, rfl⟩ : ∃ k, m = k + 1 := ⟨m - 1, by omega⟩
      have e8 : (-8 : Int32).toInt = -8 := by decide
      have e1 : (1 : Int32).toInt = 1 := by decide
      have ex : (x2 + (-8)).toInt = 8 * (k : Int) - 8 := by rw [toInt_add] <;> rw [e8] <;> omega
      have e5 : (s.i 5 + 1).toInt = (s.i 5).toInt + 1 := by rw [toInt_add] <;> rw [e1] <;> omega
      obtain ⟨Y, hY⟩ : ∃ Y, Y = CS.setI (CS.putA s 0 (gPut (s.a 0) 900 (s.i 5) (((x1 : Int32).toUInt32 >>> ((x2 : Int32).toUInt32 &&& Int32.toUInt32 31)).toInt32 &&& 255))) 5 ((s.i 5) + 1) := ⟨_, rfl⟩
      have fY : FDB s Y 1 := by
        rw [hY]
        refine ⟨(HSM.pa s 0 _).tr (HSM.i _ _ _), fun j hj => ?_, fun k hk => ?_, ?_⟩
        · rw [ci_ne _ _ _ hj]; rfl
        · exact if_neg hk
        · rw [ci_at]; exact e5
      rw [← hY]
      clear hY
      refine ok_imp (q_addB3 n Y (x2 + (-8)) k ex (by omega) (by omega) (by rw [fY.2.2.2]; omega)) (fun R hR => ?_)
      have := fY.tr hR
      rw [show ((k + 1 : Nat) : Int) = 1 + (k : Int) by omega]
      exact this
theorem q_addB {N : Nat} (hN : 1000 ≤ N) {s : CS} (x1 : Int32) (h5 : 0 ≤ (s.i 5).toInt ∧ (s.i 5).toInt + 4 ≤ 900) : ok (f_X11_addBytes N s x1) (fun R => FDB s R.2 4) := q_addB3 N s 24 4 (by decide) (by omega) (by omega) h5
theorem z_feed {N : Nat} (hN : 1000 ≤ N) {h : Nat} {s : CS} (hc : CIV h s) (x1 x2 x3 x4 x5 : Int32) : ok (f_X11_feed N s x1 x2 x3 x4 x5) (fun R => CIV h R.2) := by
  unfold f_X11_feed
  refine ok_ite (fun c => ?_) (fun _ => ok_some hc)
  have h5 := hc.2.2.2.2.2.1
  have l := le_int c
  have e20 : (20 : Int32).toInt = 20 := by decide
  have e9 : (900 : Int32).toInt = 900 := by decide
  have e5 : (s.i 5 + 20).toInt = (s.i 5).toInt + 20 := by rw [toInt_add] <;> rw [e20] <;> omega
  rw [e5, e9] at l
  refine ok_bind (q_addB hN x1 (by omega)) (fun p1 h1 => ok_bind (q_addB hN x2 (by rw [h1.2.2.2]; omega)) (fun p2 h2' => ?_))
  have h2 := h1.tr h2'
  refine ok_bind (q_addB hN x3 (by rw [h2.2.2.2]; omega)) (fun p3 h3' => ?_)
  have h3 := h2.tr h3'
  refine ok_bind (q_addB hN x4 (by rw [h3.2.2.2]; omega)) (fun p4 h4' => ?_)
  have h4 := h3.tr h4'
  refine ok_bind (q_addB hN x5 (by rw [h4.2.2.2]; omega)) (fun p5 h5' => ok_some ?_)
  obtain ⟨f1, f2, f3, f4⟩ := h4.tr h5'
  refine hc.of f1 ⟨by rw [f2 14 (by decide)]; exact hc.2.2.2.2.1.1, by rw [f2 13 (by decide)]; exact hc.2.2.2.2.1.2⟩ (by rw [f4]; omega) (f2 7 (by decide)) ⟨f3 15 (by decide), f3 16 (by decide), f3 17 (by decide), f2 20 (by decide)⟩
theorem z_cut {N : Nat} {h : Nat} {s : CS} (hc : CIV h s) (x1 : Int32) : ok (f_X11_cut N s x1) (fun R => CIV h R.2) := by
  unfold f_X11_cut f_X11_cut_12
  refine ok_ite (fun _ => ok_some hc) (fun c1 => ok_ite (fun c2 => ok_some ?_) (fun _ => ok_some hc))
  have l1 := le_int (Int32.not_lt.mp c1)
  have l2 := le_int c2
  rw [z_t0] at l1
  have h5 := hc.2.2.2.2.2.1
  have f2 : ∀ j : Nat, j ≠ 5 → (CS.setI s 5 x1).i j = s.i j := fun j hj => ci_ne _ _ _ hj
  refine hc.of (HSM.i _ _ _) ⟨by rw [f2 14 (by decide)]; exact hc.2.2.2.2.1.1, by rw [f2 13 (by decide)]; exact hc.2.2.2.2.1.2⟩ (by rw [ci_at]; omega) (f2 7 (by decide)) ⟨rfl, rfl, rfl, f2 20 (by decide)⟩
theorem z_isKind {N : Nat} {s : CS} (x1 : Int32) : ok (f_X10_isKind N s x1) (fun R => R.2 = s) := by
  unfold f_X10_isKind f_X10_isKind_16
  exact ok_ite (fun _ => ok_some rfl) (fun _ => ok_ite (fun _ => ok_some rfl) (fun _ => ok_some rfl))
theorem z_kind {N : Nat} {h : Nat} {s : CS} (hc : CIV h s) (x1 : Int32) : ok (f_X11_kind N s x1) (fun R => CIV h R.2) := by
  unfold f_X11_kind f_X10_isFull
  refine ok_bind (z_isKind x1) (fun p hp => ?_)
  rw [hp]
  refine ok_ite (fun _ => ok_some hc) (fun _ => ?_)
  by_cases c : s.i 13 < 12
  · rw [if_pos c]
    show ok (if (0 : Int32) = 0 then (f_X10_addKind N s x1).bind fun p11 => some (p11.1, p11.2) else some ((-2), s)) _
    rw [if_pos rfl]
    unfold f_X10_addKind
    have l := lt_int c
    have e12 : (12 : Int32).toInt = 12 := by decide
    have e1 : (1 : Int32).toInt = 1 := by decide
    rw [e12] at l
    have lo := Int32.le_toInt (s.i 13)
    refine ok_bind (ok_some (P := fun w => CIV h w.2) ?_) (fun w hw => ok_some hw)
    have f2 : ∀ j : Nat, j ≠ 13 → (CS.setI (CS.putA s 9 (gPut (s.a 9) 12 (s.i 13) x1)) 13 ((s.i 13) + 1)).i j = s.i j := fun j hj => ci_ne _ _ _ hj
    have fa : ∀ k : Nat, k ≠ 9 → (CS.setI (CS.putA s 9 (gPut (s.a 9) 12 (s.i 13) x1)) 13 ((s.i 13) + 1)).a k = s.a k := fun k hk => if_neg hk
    refine hc.of ((HSM.pa s 9 _).tr (HSM.i _ _ _)) ⟨by rw [f2 14 (by decide)]; exact hc.2.2.2.2.1.1, ?_⟩ (by rw [f2 5 (by decide)]; exact hc.2.2.2.2.2.1) (f2 7 (by decide)) ⟨fa 15 (by decide), fa 16 (by decide), fa 17 (by decide), f2 20 (by decide)⟩
    rw [ci_at, toInt_add] <;> rw [e1] <;> omega
  · rw [if_neg c]
    exact ok_some hc
theorem z_ikn {N : Nat} {s : CS} (x1 : Int32) : ok (f_X11_isKindOrNothing N s x1) (fun R => R.2 = s) := by
  unfold f_X11_isKindOrNothing f_X11_isKindOrNothing_16
  refine ok_ite (fun _ => ok_some rfl) (fun _ => ok_bind (z_isKind x1) (fun p hp => ?_))
  rw [hp]
  exact ok_ite (fun _ => ok_some rfl) (fun _ => ok_some rfl)
theorem z_resource {N : Nat} {h : Nat} {s : CS} (hc : CIV h s) (x1 x2 x3 x4 : Int32) : ok (f_X11_resource N s x1 x2 x3 x4) (fun R => CIV h R.2) := by
  unfold f_X11_resource f_X11_resource_19 f_X11_resource_38 f_X10_tellResource
  refine ok_ite (fun _ => ok_some hc) (fun _ => ok_ite (fun _ => ok_some hc) (fun _ => ok_ite (fun _ => ok_some hc) (fun _ => ok_ite (fun _ => ?_) (fun _ => ok_some hc))))
  refine ok_bind (z_ikn x3) (fun p hp => ?_)
  rw [hp]
  refine ok_ite (fun _ => ok_some hc) (fun _ => ok_bind (z_ikn x4) (fun q hq => ?_))
  rw [hq]
  refine ok_ite (fun _ => ok_some hc) (fun _ => ok_bind (ok_some (P := fun w => CIV h w.2) ?_) (fun w hw => ok_some hw))
  have e1 : ∀ (t : CS) (k : Nat) (f : Nat → Int32), ¬ k = 15 → ¬ k = 16 → ¬ k = 17 → CIV h t → CIV h (CS.putA t k f) := fun t k f k1 k2 k3 ht => ht.of (HSM.pa t k f) ht.2.2.2.2.1 ht.2.2.2.2.2.1 rfl ⟨if_neg (fun q => k1 q.symm), if_neg (fun q => k2 q.symm), if_neg (fun q => k3 q.symm), rfl⟩
  exact e1 _ _ _ (by decide) (by decide) (by decide) (e1 _ _ _ (by decide) (by decide) (by decide) (e1 _ _ _ (by decide) (by decide) (by decide) hc))
theorem z_asserts {N : Nat} {h : Nat} {s : CS} (hc : CIV h s) (x1 : Int32) (hx : bo x1) : ok (f_X11_asserts N s x1) (fun R => CIV h R.2) := by
  unfold f_X11_asserts f_X11_asserts_16
  have f2 : ∀ j : Nat, j ≠ 14 → (CS.setI s 14 x1).i j = s.i j := fun j hj => ci_ne _ _ _ hj
  have c2 : CIV h (CS.setI s 14 x1) := hc.of (HSM.i _ _ _) ⟨by rw [ci_at]; exact hx, by rw [f2 13 (by decide)]; exact hc.2.2.2.2.1.2⟩ (by rw [f2 5 (by decide)]; exact hc.2.2.2.2.2.1) (f2 7 (by decide)) ⟨rfl, rfl, rfl, f2 20 (by decide)⟩
  exact ok_ite (fun _ => ok_chk hx (ok_some c2)) (fun _ => ok_chk hx (ok_some c2))
theorem z_fault {N : Nat} {h : Nat} {s : CS} (hc : CIV h s) : ok (f_X11_fault N s) (fun R => CIV h R.2) := ok_some hc
theorem z_program {N : Nat} {h : Nat} {s : CS} (hc : CIV h s) (x1 : Int32) : ok (f_X11_program N s x1) (fun R => CIV h R.2) := by
  unfold f_X11_program f_X11_program_9
  exact ok_ite (fun _ => ok_some hc) (fun _ => ok_ite (fun _ => ok_ite (fun _ => ok_some hc) (fun _ => ok_ite (fun _ => ok_some hc) (fun _ => ok_ite (fun _ => ok_ite (fun _ => ok_some hc) (fun _ => ok_some hc)) (fun _ => ok_ite (fun _ => ok_some hc) (fun _ => ok_some hc))))) (fun _ => ok_some hc))
theorem z_under {N : Nat} (hN : 1000 ≤ N) {h : Nat} {s : CS} (hc : CIV h s) (x1 x2 : Int32) : ok (f_X11_under N s x1 x2) (fun R => CIV h R.2) := by
  unfold f_X11_under f_X11_under_22
  refine ok_bind (z_isKind x1) (fun p hp => ?_)
  rw [hp]
  refine ok_ite (fun _ => ok_some hc) (fun _ => ok_bind (z_isKind x2) (fun q hq => ?_))
  rw [hq]
  refine ok_ite (fun _ => ok_some hc) (fun _ => ok_bind (q_isUnder hN) (fun r hr => ?_))
  rw [hr.1]
  exact ok_ite (fun _ => ok_some hc) (fun _ => ok_some hc)
theorem z_trace {N : Nat} {h : Nat} {s : CS} (hc : CIV h s) (x1 x2 : Int32) : ok (f_X11_trace N s x1 x2) (fun R => CIV h R.2) := by
  unfold f_X11_trace f_X11_trace_31
  exact ok_ite (fun _ => ok_some hc) (fun _ => ok_ite (fun _ => ok_some hc) (fun _ => ok_ite (fun _ => ok_some hc) (fun _ => ok_ite (fun _ => ok_some hc) (fun _ => ok_ite (fun _ => ok_some hc) (fun _ => ok_some hc)))))
theorem z_last {N : Nat} {h : Nat} {s : CS} (hc : CIV h s) : ok (f_X3_lastThrown N s) (fun R => R.2 = s ∧ ∀ a : Nat, R.1 = some a → oK s a 2 ∧ oK s (a + 1) 3 ∧ oK s (a + 2) 3) := by
  unfold f_X3_lastThrown
  refine ok_ite (fun _ => ?_) (fun _ => ok_some ⟨rfl, fun a e => by cases e⟩)
  cases hw : s.w with
  | none => exact ok_some ⟨rfl, fun a e => by cases e⟩
  | some b =>
    refine ok_some ⟨rfl, fun a e => ?_⟩
    have e' : b = a := Option.some.inj e
    obtain ⟨r1, r2, r3, r4, r5, r6, r7, r8, r9⟩ := hc.1
    obtain ⟨j, hj, ej⟩ := r9 b hw
    rw [← e']
    exact r6 j b hj ej
theorem z_ran {N : Nat} {h : Nat} {s : CS} (hc : CIV h s) (x1 : Int32) : ok (f_X11_ran N s x1) (fun R => CIV h R.2) := by
  unfold f_X11_ran f_X11_ran_10 f_X3_answer
  refine ok_ite (fun _ => ok_some hc) (fun _ => ok_ite (fun _ => ok_ite (fun _ => ok_some hc) (fun _ => ?_)) (fun _ => ok_some hc))
  refine ok_bind (Q := fun w => w.2 = s) (ok_bind (z_last hc) (fun p hp => ?_)) (fun w hw => ok_some (by rw [hw]; exact hc))
  obtain ⟨p1, p2⟩ := hp
  rw [p1]
  cases e : p.1 with
  | none => exact ok_ite (fun _ => ok_some rfl) (fun _ => ok_ite (fun _ => ok_some rfl) (fun _ => ok_ite (fun _ => ok_ite (fun _ => ok_some rfl) (fun _ => ok_some rfl)) (fun _ => ok_ite (fun _ => ok_some rfl) (fun _ => ok_ite (fun _ => ok_some rfl) (fun _ => ok_ite (fun _ => ok_some rfl) (fun _ => ok_some rfl))))))
  | some a =>
    have o := (p2 a e).1
    exact ok_ite (fun _ => ok_some rfl) (fun _ => ok_ite (fun _ => ok_some rfl) (fun _ => ok_ite (fun _ => ok_ite (fun _ => ok_some rfl) (fun _ => ok_some rfl)) (fun _ => ok_ite (fun _ => ok_chk o (ok_some rfl)) (fun _ => ok_ite (fun _ => ok_chk o (ok_some rfl)) (fun _ => ok_ite (fun _ => ok_chk o (ok_some rfl)) (fun _ => ok_some rfl))))))
theorem z_sup19 {N : Nat} {h : Nat} {s : CS} (hc : CIV h s) (x1 x2 : Int32) (r : Option Nat) (hr : ∀ a : Nat, r = some a → oK s a 2 ∧ oK s (a + 1) 3 ∧ oK s (a + 2) 3) : ok (f_X11_suppressed_19 N s x1 x2 r) (fun R => CIV h R.2) := by
  unfold f_X11_suppressed_19 f_X11_suppressed_44
  cases r with
  | none => exact ok_some hc
  | some a =>
    obtain ⟨o1, o2, o3⟩ := hr a rfl
    exact ok_ite (fun _ => ok_some hc) (fun _ => ok_chk o1 (ok_ite (fun _ => ok_some hc) (fun _ => ok_ite (fun _ => ok_some hc) (fun _ => ok_ite (fun _ => ok_ite (fun _ => ok_chk o2 (ok_some hc)) (fun _ => ok_chk o3 (ok_some hc))) (fun _ => ok_some hc)))))
theorem z_suppressed {N : Nat} {h : Nat} {s : CS} (hc : CIV h s) (x1 x2 : Int32) : ok (f_X11_suppressed N s x1 x2) (fun R => CIV h R.2) := by
  unfold f_X11_suppressed
  refine ok_ite (fun _ => z_sup19 hc x1 x2 none (fun a e => by cases e)) (fun _ => ok_bind (z_last hc) (fun p hp => ?_))
  obtain ⟨p1, p2⟩ := hp
  rw [p1]
  cases e : p.1 with
  | none => exact z_sup19 hc x1 x2 none (fun a e => by cases e)
  | some a => exact z_sup19 hc x1 x2 (some a) (fun b eb => p2 b (by rw [e]; exact eb))
theorem z_run {N : Nat} (hN : 10000000000 ≤ N) {h : Nat} {s : CS} (hc : CIV h s) (x1 x2 : Int32) : ok (f_X11_run N s x1 x2) (fun R => CIV h R.2) := by
  unfold f_X11_run
  refine ok_ite (fun _ => ok_some hc) (fun c => ?_)
  obtain ⟨Y, hY⟩ : ∃ Y, Y = CS.setI s 8 1 := ⟨_, rfl⟩
  have f2 : ∀ j : Nat, j ≠ 8 → Y.i j = s.i j := fun j hj => by rw [hY]; exact ci_ne _ _ _ hj
  have cY : CIV h Y := by
    refine hc.of (by rw [hY]; exact HSM.i _ _ _) ⟨by rw [f2 14 (by decide)]; exact hc.2.2.2.2.1.1, by rw [f2 13 (by decide)]; exact hc.2.2.2.2.1.2⟩ (by rw [f2 5 (by decide)]; exact hc.2.2.2.2.2.1) (f2 7 (by decide)) ⟨by rw [hY]; rfl, by rw [hY]; rfl, by rw [hY]; rfl, f2 20 (by decide)⟩
  rw [← hY]
  obtain ⟨D, hD⟩ := cY.2.2.2.2.2.2 (by rw [f2 7 (by decide)]; exact c)
  refine ok_bind (q_perform hN cY.1 cY.2.1 hD x1 x2) (fun R hR => ok_some ?_)
  obtain ⟨r1, r2, m1, m2, m3, m4, m5, m6⟩ := hR
  obtain ⟨c1, c2, c3, c4, c5, c6, c7⟩ := cY
  refine ⟨r1, r2, by unfold WDC at *; rw [m3]; exact c3, fun i a hi e => ?_, by rw [m1 14 (by decide), m1 13 (by decide)]; exact c5, by rw [m1 5 (by decide)]; exact c6, fun q => ?_⟩
  · rw [m5] at e
    have w := m6 a (c1.2.1 i a hi e)
    rw [w.2.1]
    exact c4 i a hi e
  · rw [m1 7 (by decide)] at q
    obtain ⟨D', hD'⟩ := c7 q
    exact ⟨D', CEQ.wt ⟨m2 15 (by decide), m2 16 (by decide), m2 17 (by decide), m1 20 (by decide)⟩ hD'⟩
theorem z_read {N : Nat} (hN : 10000000000 ≤ N) {h : Nat} {s : CS} (hc : CIV h s) : ok (f_X11_read N (fEE N 23).1 (fEE N 23).2 s) (fun R => CIV h R.2) := by
  unfold f_X11_read f_X11_read_43
  obtain ⟨Y, hY⟩ : ∃ Y, Y = CS.setI (CS.setI s 5 0) 8 0 := ⟨_, rfl⟩
  have f2 : ∀ j : Nat, j ≠ 5 → j ≠ 8 → Y.i j = s.i j := fun j h1 h2 => by rw [hY, ci_ne _ _ _ h2, ci_ne _ _ _ h1]
  have y5 : Y.i 5 = 0 := by rw [hY, ci_ne _ _ _ (by decide), ci_at]
  have cY : CIV h Y := by
    refine hc.of (by rw [hY]; exact (HSM.i _ _ _).tr (HSM.i _ _ _)) ⟨by rw [f2 14 (by decide) (by decide)]; exact hc.2.2.2.2.1.1, by rw [f2 13 (by decide) (by decide)]; exact hc.2.2.2.2.1.2⟩ (by rw [y5, z_t0]; omega) (f2 7 (by decide) (by decide)) ⟨by rw [hY]; rfl, by rw [hY]; rfl, by rw [hY]; rfl, f2 20 (by decide) (by decide)⟩
  rw [← hY]
  clear hY
  have kp := k5_X7_translate N (fEE N 23).1 (fEE N 23).2 (k5EE N 23).1 (k5EE N 23).2 Y (s.i 5)
  obtain ⟨p, e, p1, p2, p3⟩ := q_translate hN cY (s.i 5) hc.2.2.2.2.2.1
  have p5 := kp p e
  rw [e]
  show ok (if p.1 = 0 then _ else _) _
  have fin : ∀ v : Int32, (¬ v = 0 → p.2.i 32 = 0) → CIV h (CS.setI (CS.setI p.2 6 p.1) 7 v) := fun v hv => by
    obtain ⟨c1, c2, c3, c4, c5, c6, c7, c8, c9⟩ := p2
    have g2 : ∀ j : Nat, j ≠ 6 → j ≠ 7 → (CS.setI (CS.setI p.2 6 p.1) 7 v).i j = p.2.i j := fun j h1 h2 => by rw [ci_ne _ _ _ h2, ci_ne _ _ _ h1]
    have g7 : (CS.setI (CS.setI p.2 6 p.1) 7 v).i 7 = v := ci_at _ _ _
    have hs : HSM p.2 (CS.setI (CS.setI p.2 6 p.1) 7 v) := (HSM.i _ _ _).tr (HSM.i _ _ _)
    have cq : CEQ p.2 (CS.setI (CS.setI p.2 6 p.1) 7 v) := ⟨rfl, rfl, rfl, g2 20 (by decide) (by decide)⟩
    refine ⟨hs.refs c1, hs.room c2.1, hs.wd c4, c8, by rw [g2 14 (by decide) (by decide), g2 13 (by decide) (by decide)]; exact c9.2.1, by rw [g2 5 (by decide) (by decide), p5, y5, z_t0]; omega, fun q => ?_⟩
    rw [g7] at q
    obtain ⟨D, hD⟩ := p3 (hv q)
    exact ⟨D, cq.wt hD⟩
  refine ok_ite (fun c => ?_) (fun c => ?_)
  · have f := fin 1 (fun _ => p1.symm.trans c)
    exact ok_ite (fun _ => ok_some f) (fun _ => ok_some f)
  · have f := fin 0 (fun q => absurd rfl q)
    exact ok_ite (fun _ => ok_some f) (fun _ => ok_some f)
end
section
/-! the reference: what its reading leaves alone -/
def KSR (s r : RS) : Prop := r.i 3 = s.i 3 ∧ r.i 8 = s.i 8 ∧ r.a 4 = s.a 4 ∧ r.i 2 = s.i 2
theorem KSR.tr {s r u : RS} (h : KSR s r) (g : KSR r u) : KSR s u := ⟨g.1.trans h.1, g.2.1.trans h.2.1, g.2.2.1.trans h.2.2.1, g.2.2.2.trans h.2.2.2⟩
def KR {α : Type} (s : RS) (t : Option (α × RS)) : Prop := ∀ R, t = some R → KSR s R.2
def KV (s : RS) (t : Option RS) : Prop := ∀ R, t = some R → KSR s R
theorem kr_some {α : Type} {s : RS} {r : α × RS} (h : KSR s r.2) : KR s (some r) := fun R q => by
  cases q
  exact h
theorem kv_some {s r : RS} (h : KSR s r) : KV s (some r) := fun R q => by
  cases q
  exact h
theorem kr_none {α : Type} {s : RS} : KR s (none : Option (α × RS)) := fun R q => by cases q
theorem kv_none {s : RS} : KV s (none : Option RS) := fun R q => by cases q
theorem kr_ite {α : Type} {s : RS} {c : Prop} [Decidable c] {x y : Option (α × RS)} (hx : KR s x) (hy : KR s y) : KR s (if c then x else y) := by
  by_cases h : c
  · rw [if_pos h]; exact hx
  · rw [if_neg h]; exact hy
theorem kv_ite {s : RS} {c : Prop} [Decidable c] {x y : Option RS} (hx : KV s x) (hy : KV s y) : KV s (if c then x else y) := by
  by_cases h : c
  · rw [if_pos h]; exact hx
  · rw [if_neg h]; exact hy
theorem kr_st {α : Type} {s r : RS} {t : Option (α × RS)} (h : KSR s r) (g : KR r t) : KR s t := fun R q => h.tr (g R q)
theorem kv_st {s r : RS} {t : Option RS} (h : KSR s r) (g : KV r t) : KV s t := fun R q => h.tr (g R q)
theorem kr_bind {α β : Type} {s : RS} {x : Option (α × RS)} {k : α × RS → Option (β × RS)} (hx : KR s x) (hk : ∀ p : α × RS, KR p.2 (k p)) : KR s (x.bind k) := by
  intro R h
  obtain ⟨p, h1, h2⟩ := hf_bind h
  exact (hx p h1).tr (hk p R h2)
theorem kr_bindv {β : Type} {s : RS} {x : Option RS} {k : RS → Option (β × RS)} (hx : KV s x) (hk : ∀ p : RS, KR p (k p)) : KR s (x.bind k) := by
  intro R h
  obtain ⟨p, h1, h2⟩ := hf_bind h
  exact (hx p h1).tr (hk p R h2)
theorem kv_bind {α : Type} {s : RS} {x : Option (α × RS)} {k : α × RS → Option RS} (hx : KR s x) (hk : ∀ p : α × RS, KV p.2 (k p)) : KV s (x.bind k) := by
  intro R h
  obtain ⟨p, h1, h2⟩ := hf_bind h
  exact (hx p h1).tr (hk p R h2)
theorem kv_bindv {s : RS} {x : Option RS} {k : RS → Option RS} (hx : KV s x) (hk : ∀ p : RS, KV p (k p)) : KV s (x.bind k) := by
  intro R h
  obtain ⟨p, h1, h2⟩ := hf_bind h
  exact (hx p h1).tr (hk p R h2)
theorem kr_f_X12_thrown (N : Nat) (σ : RS) : KR σ (f_X12_thrown N σ) := by
  unfold f_X12_thrown
  exact (kr_some ⟨rfl, rfl, rfl, rfl⟩)
theorem kr_f_X12_in_14 (N : Nat) (σ : RS) : KR σ (f_X12_in_14 N σ) := by
  unfold f_X12_in_14
  exact (kr_some ⟨rfl, rfl, rfl, rfl⟩)
theorem kr_f_X12_in (N : Nat) (σ : RS) (x0 : Int32) (x1 : Int32) (x2 : Int32) : KR σ (f_X12_in N σ x0 x1 x2) := by
  unfold f_X12_in
  exact (kr_ite (kr_st ⟨rfl, rfl, rfl, rfl⟩ (kr_f_X12_in_14 N σ)) (kr_ite (kr_st ⟨rfl, rfl, rfl, rfl⟩ (kr_f_X12_in_14 N σ)) (kr_some ⟨rfl, rfl, rfl, rfl⟩)))
theorem kr_f_X12_isUnder_21 (N : Nat) (σ : RS) (x2 : Int32) (x3 : Int32) : KR σ (f_X12_isUnder_21 N σ x2 x3) := by
  unfold f_X12_isUnder_21
  exact (kr_ite (kr_some ⟨rfl, rfl, rfl, rfl⟩) (kr_some ⟨rfl, rfl, rfl, rfl⟩))
theorem kr_b_X12_isUnder_2 (N : Nat) (K : RS → Int32 → Int32 → Option (Int32 × RS)) (hK : ∀ (σ : RS) (y0 : Int32) (y1 : Int32), KR σ (K σ y0 y1)) (σ : RS) (x2 : Int32) (x3 : Int32) : KR σ (b_X12_isUnder_2 N K σ x2 x3) := by
  unfold b_X12_isUnder_2
  exact (kr_ite (kr_st ⟨rfl, rfl, rfl, rfl⟩ (kr_f_X12_isUnder_21 N σ x2 x3)) (kr_ite (kr_st ⟨rfl, rfl, rfl, rfl⟩ (kr_f_X12_isUnder_21 N σ x2 x3)) (kr_ite (kr_st ⟨rfl, rfl, rfl, rfl⟩ (hK σ x2 (σ.a 4 ((x3 : Int32).toNatClampNeg)))) kr_none)))
theorem kr_f_X12_isUnder_2 (N : Nat) : ∀ (n : Nat) (σ : RS) (y0 : Int32) (y1 : Int32), KR σ (f_X12_isUnder_2 N n σ y0 y1)
  | 0, _, _, _ => kr_none
  | n+1, σ, y0, y1 => kr_b_X12_isUnder_2 N (f_X12_isUnder_2 N n) (fun σ y0 y1 => kr_f_X12_isUnder_2 N n σ y0 y1) σ y0 y1
theorem kr_f_X12_isUnder (N : Nat) (σ : RS) (x1 : Int32) (x2 : Int32) : KR σ (f_X12_isUnder N σ x1 x2) := by
  unfold f_X12_isUnder
  exact (kr_st ⟨rfl, rfl, rfl, rfl⟩ (kr_f_X12_isUnder_2 N N σ x2 x1))
theorem kr_f_X12_under_33 (N : Nat) (σ : RS) : KR σ (f_X12_under_33 N σ) := by
  unfold f_X12_under_33
  exact (kr_some ⟨rfl, rfl, rfl, rfl⟩)
theorem kr_f_X12_under (N : Nat) (σ : RS) (x1 : Int32) (x2 : Int32) : KR σ (f_X12_under N σ x1 x2) := by
  unfold f_X12_under
  exact (kr_bind (kr_st ⟨rfl, rfl, rfl, rfl⟩ (kr_f_X12_in N (RS.setI σ 0 0) x1 0 ((σ.i 3) - 1))) (fun p1 => (kr_ite (kr_st ⟨rfl, rfl, rfl, rfl⟩ (kr_f_X12_under_33 N p1.2)) (kr_bind (kr_st ⟨rfl, rfl, rfl, rfl⟩ (kr_f_X12_in N p1.2 x2 0 ((p1.2.i 3) - 1))) (fun p4 => (kr_ite (kr_st ⟨rfl, rfl, rfl, rfl⟩ (kr_f_X12_under_33 N p4.2)) (kr_bind (kr_st ⟨rfl, rfl, rfl, rfl⟩ (kr_f_X12_isUnder N p4.2 x1 x2)) (fun p7 => (kr_ite (kr_some ⟨rfl, rfl, rfl, rfl⟩) (kr_some ⟨rfl, rfl, rfl, rfl⟩))))))))))
theorem kr_f_X12_resource_53 (N : Nat) (σ : RS) : KR σ (f_X12_resource_53 N σ) := by
  unfold f_X12_resource_53
  exact (kr_some ⟨rfl, rfl, rfl, rfl⟩)
theorem kr_f_X12_resource_71 (N : Nat) (σ : RS) (x1 : Int32) (x3 : Int32) (x4 : Int32) : KR σ (f_X12_resource_71 N σ x1 x3 x4) := by
  unfold f_X12_resource_71
  exact (kr_ite (kr_some ⟨rfl, rfl, rfl, rfl⟩) kr_none)
theorem kr_f_X12_resource (N : Nat) (σ : RS) (x1 : Int32) (x2 : Int32) (x3 : Int32) (x4 : Int32) : KR σ (f_X12_resource N σ x1 x2 x3 x4) := by
  unfold f_X12_resource
  exact (kr_bind (kr_st ⟨rfl, rfl, rfl, rfl⟩ (kr_f_X12_in N (RS.setI σ 0 0) x1 0 7)) (fun p1 => (kr_ite (kr_st ⟨rfl, rfl, rfl, rfl⟩ (kr_f_X12_resource_53 N p1.2)) (kr_bind (kr_st ⟨rfl, rfl, rfl, rfl⟩ (kr_f_X12_in N p1.2 x2 0 1)) (fun p4 => (kr_ite (kr_st ⟨rfl, rfl, rfl, rfl⟩ (kr_f_X12_resource_53 N p4.2)) (kr_bind (kr_st ⟨rfl, rfl, rfl, rfl⟩ (kr_f_X12_in N p4.2 x3 (-1) ((p4.2.i 3) - 1))) (fun p7 => (kr_ite (kr_st ⟨rfl, rfl, rfl, rfl⟩ (kr_f_X12_resource_53 N p7.2)) (kr_bind (kr_st ⟨rfl, rfl, rfl, rfl⟩ (kr_f_X12_in N p7.2 x4 (-1) ((p7.2.i 3) - 1))) (fun p10 => (kr_ite (kr_st ⟨rfl, rfl, rfl, rfl⟩ (kr_f_X12_resource_53 N p10.2)) (kr_ite (kr_ite (kr_st ⟨rfl, rfl, rfl, rfl⟩ (kr_f_X12_resource_71 N (RS.setA p10.2 5 ((x1 : Int32).toNatClampNeg) 1) x1 x3 x4)) kr_none) (kr_ite (kr_st ⟨rfl, rfl, rfl, rfl⟩ (kr_f_X12_resource_71 N (RS.setA p10.2 5 ((x1 : Int32).toNatClampNeg) 0) x1 x3 x4)) kr_none))))))))))))))
theorem kr_f_X12_at (N : Nat) (σ : RS) (x1 : Int32) : KR σ (f_X12_at N σ x1) := by
  unfold f_X12_at
  exact (kr_ite (kr_some ⟨rfl, rfl, rfl, rfl⟩) (kr_ite (kr_some ⟨rfl, rfl, rfl, rfl⟩) kr_none))
theorem kr_f_X12_isLetter_16 (N : Nat) (σ : RS) : KR σ (f_X12_isLetter_16 N σ) := by
  unfold f_X12_isLetter_16
  exact (kr_some ⟨rfl, rfl, rfl, rfl⟩)
theorem kr_f_X12_isLetter (N : Nat) (σ : RS) (x0 : Int32) : KR σ (f_X12_isLetter N σ x0) := by
  unfold f_X12_isLetter
  exact (kr_ite (kr_st ⟨rfl, rfl, rfl, rfl⟩ (kr_f_X12_isLetter_16 N σ)) (kr_ite (kr_st ⟨rfl, rfl, rfl, rfl⟩ (kr_f_X12_isLetter_16 N σ)) (kr_some ⟨rfl, rfl, rfl, rfl⟩)))
theorem kr_f_X12_isDigit_16 (N : Nat) (σ : RS) : KR σ (f_X12_isDigit_16 N σ) := by
  unfold f_X12_isDigit_16
  exact (kr_some ⟨rfl, rfl, rfl, rfl⟩)
theorem kr_f_X12_isDigit (N : Nat) (σ : RS) (x0 : Int32) : KR σ (f_X12_isDigit N σ x0) := by
  unfold f_X12_isDigit
  exact (kr_ite (kr_st ⟨rfl, rfl, rfl, rfl⟩ (kr_f_X12_isDigit_16 N σ)) (kr_ite (kr_st ⟨rfl, rfl, rfl, rfl⟩ (kr_f_X12_isDigit_16 N σ)) (kr_some ⟨rfl, rfl, rfl, rfl⟩)))
theorem kr_b_X12_readName_260 (N : Nat) (K : RS → Int32 → Option (RS)) (hK : ∀ (σ : RS) (y0 : Int32), KV σ (K σ y0)) (σ : RS) (x4 : Int32) : KV σ (b_X12_readName_260 N K σ x4) := by
  unfold b_X12_readName_260
  exact (kv_ite (kv_some ⟨rfl, rfl, rfl, rfl⟩) (kv_ite (kv_ite (kv_st ⟨rfl, rfl, rfl, rfl⟩ (hK (RS.setI σ 10 (410 + x4)) (x4 + 1))) (kv_st ⟨rfl, rfl, rfl, rfl⟩ (hK (RS.setI σ 10 (σ.i 10)) (x4 + 1)))) kv_none))
theorem kr_f_X12_readName_260 (N : Nat) : ∀ (n : Nat) (σ : RS) (y0 : Int32), KV σ (f_X12_readName_260 N n σ y0)
  | 0, _, _ => kv_none
  | n+1, σ, y0 => kr_b_X12_readName_260 N (f_X12_readName_260 N n) (fun σ y0 => kr_f_X12_readName_260 N n σ y0) σ y0
theorem kr_f_X12_readName_257 (N : Nat) (σ : RS) : KV σ (f_X12_readName_257 N σ) := by
  unfold f_X12_readName_257
  exact (kv_st ⟨rfl, rfl, rfl, rfl⟩ (kr_f_X12_readName_260 N N σ 0))
theorem kr_f_X12_readName_254 (N : Nat) (σ : RS) : KV σ (f_X12_readName_254 N σ) := by
  unfold f_X12_readName_254
  exact (kv_some ⟨rfl, rfl, rfl, rfl⟩)
theorem kr_f_X12_readName_220 (N : Nat) (σ : RS) (x1 : Int32) (x3 : Int32) : KV σ (f_X12_readName_220 N σ x1 x3) := by
  unfold f_X12_readName_220
  exact (kv_ite (kv_st ⟨rfl, rfl, rfl, rfl⟩ (kr_f_X12_readName_254 N (RS.setI (RS.setI σ 10 5) 14 x3))) (kv_bind (kr_st ⟨rfl, rfl, rfl, rfl⟩ (kr_f_X12_at N (RS.setI σ 10 5) ((σ.i 11) + 2))) (fun p32 => (kv_st ⟨rfl, rfl, rfl, rfl⟩ (kr_f_X12_readName_254 N (RS.setI p32.2 14 ((10 + p32.1) - 48)))))))
theorem kr_f_X12_readName_189 (N : Nat) (σ : RS) (x1 : Int32) (x3 : Int32) : KV σ (f_X12_readName_189 N σ x1 x3) := by
  unfold f_X12_readName_189
  exact (kv_ite (kv_ite (kv_bind (kr_st ⟨rfl, rfl, rfl, rfl⟩ (kr_f_X12_at N σ ((σ.i 11) + 2))) (fun p26 => (kv_bind (kr_st ⟨rfl, rfl, rfl, rfl⟩ (kr_f_X12_in N p26.2 (p26.1 - 48) 0 1)) (fun p28 => (kv_ite (kv_st ⟨rfl, rfl, rfl, rfl⟩ (kr_f_X12_readName_257 N p28.2)) (kv_st ⟨rfl, rfl, rfl, rfl⟩ (kr_f_X12_readName_220 N p28.2 x1 x3))))))) (kv_st ⟨rfl, rfl, rfl, rfl⟩ (kr_f_X12_readName_257 N σ))) (kv_st ⟨rfl, rfl, rfl, rfl⟩ (kr_f_X12_readName_257 N σ)))
theorem kr_f_X12_readName_168 (N : Nat) (σ : RS) (x1 : Int32) (x2 : Int32) (x3 : Int32) : KV σ (f_X12_readName_168 N σ x1 x2 x3) := by
  unfold f_X12_readName_168
  exact (kv_ite (kv_ite (kv_bind (kr_st ⟨rfl, rfl, rfl, rfl⟩ (kr_f_X12_in N σ x3 0 9)) (fun p34 => (kv_ite (kv_st ⟨rfl, rfl, rfl, rfl⟩ (kr_f_X12_readName_189 N p34.2 x1 x3)) (kv_st ⟨rfl, rfl, rfl, rfl⟩ (kr_f_X12_readName_220 N p34.2 x1 x3))))) (kv_st ⟨rfl, rfl, rfl, rfl⟩ (kr_f_X12_readName_189 N σ x1 x3))) (kv_st ⟨rfl, rfl, rfl, rfl⟩ (kr_f_X12_readName_257 N σ)))
theorem kr_f_X12_readName_160 (N : Nat) (σ : RS) (x3 : Int32) : KV σ (f_X12_readName_160 N σ x3) := by
  unfold f_X12_readName_160
  exact (kv_some ⟨rfl, rfl, rfl, rfl⟩)
theorem kr_f_X12_readName_135 (N : Nat) (σ : RS) (x1 : Int32) (x2 : Int32) (x3 : Int32) : KV σ (f_X12_readName_135 N σ x1 x2 x3) := by
  unfold f_X12_readName_135
  exact (kv_bind (kr_st ⟨rfl, rfl, rfl, rfl⟩ (kr_f_X12_in N σ x3 0 7)) (fun p38 => (kv_ite (kv_st ⟨rfl, rfl, rfl, rfl⟩ (kr_f_X12_readName_168 N p38.2 x1 x2 x3)) (kv_ite (kv_st ⟨rfl, rfl, rfl, rfl⟩ (kr_f_X12_readName_160 N (RS.setI p38.2 10 3) x3)) (kv_st ⟨rfl, rfl, rfl, rfl⟩ (kr_f_X12_readName_160 N (RS.setI p38.2 10 4) x3))))))
theorem kr_b_X12_readName_5 (N : Nat) (K : RS → Option (RS)) (hK : ∀ (σ : RS), KV σ (K σ)) (σ : RS) : KV σ (b_X12_readName_5 N K σ) := by
  unfold b_X12_readName_5
  exact (kv_bind (kr_st ⟨rfl, rfl, rfl, rfl⟩ (kr_f_X12_at N σ (σ.i 12))) (fun p1 => (kv_bind (kr_st ⟨rfl, rfl, rfl, rfl⟩ (kr_f_X12_isLetter N p1.2 p1.1)) (fun p3 => (kv_ite (kv_bind (kr_st ⟨rfl, rfl, rfl, rfl⟩ (kr_f_X12_at N p3.2 (p3.2.i 12))) (fun p8 => (kv_bind (kr_st ⟨rfl, rfl, rfl, rfl⟩ (kr_f_X12_isDigit N p8.2 p8.1)) (fun p10 => (kv_ite (kv_ite (kv_bind (kr_st ⟨rfl, rfl, rfl, rfl⟩ (kr_f_X12_at N p10.2 (p10.2.i 11))) (fun p14 => (kv_bind (kr_st ⟨rfl, rfl, rfl, rfl⟩ (kr_f_X12_at N p14.2 ((p14.2.i 11) + 1))) (fun p16 => (kv_ite (kv_ite (kv_st ⟨rfl, rfl, rfl, rfl⟩ (kr_f_X12_readName_135 N (RS.setI p16.2 10 2) ((p10.2.i 12) - (p10.2.i 11)) p14.1 (p16.1 - 48))) (kv_ite (kv_st ⟨rfl, rfl, rfl, rfl⟩ (kr_f_X12_readName_135 N (RS.setI p16.2 10 2) ((p10.2.i 12) - (p10.2.i 11)) p14.1 (p16.1 - 48))) (kv_st ⟨rfl, rfl, rfl, rfl⟩ (kr_f_X12_readName_168 N (RS.setI p16.2 10 2) ((p10.2.i 12) - (p10.2.i 11)) p14.1 (p16.1 - 48))))) (kv_st ⟨rfl, rfl, rfl, rfl⟩ (kr_f_X12_readName_168 N (RS.setI p16.2 10 2) ((p10.2.i 12) - (p10.2.i 11)) p14.1 (p16.1 - 48)))))))) (kv_some ⟨rfl, rfl, rfl, rfl⟩)) (kv_bind (kr_st ⟨rfl, rfl, rfl, rfl⟩ (kr_f_X12_at N p10.2 (p10.2.i 12))) (fun p43 => (kv_st ⟨rfl, rfl, rfl, rfl⟩ (hK (RS.setI (RS.setL p43.2 ((p10.2.l <<< ((8 : Int32).toInt64 &&& 63)) ||| (p43.1 : Int32).toInt64)) 12 ((p43.2.i 12) + 1))))))))))) (kv_bind (kr_st ⟨rfl, rfl, rfl, rfl⟩ (kr_f_X12_at N p3.2 (p3.2.i 12))) (fun p6 => (kv_st ⟨rfl, rfl, rfl, rfl⟩ (hK (RS.setI (RS.setL p6.2 ((p3.2.l <<< ((8 : Int32).toInt64 &&& 63)) ||| (p6.1 : Int32).toInt64)) 12 ((p6.2.i 12) + 1)))))))))))
theorem kr_f_X12_readName_5 (N : Nat) : ∀ (n : Nat) (σ : RS), KV σ (f_X12_readName_5 N n σ )
  | 0, _ => kv_none
  | n+1, σ => kr_b_X12_readName_5 N (f_X12_readName_5 N n) (fun σ => kr_f_X12_readName_5 N n σ) σ
theorem kr_f_X12_readName (N : Nat) (σ : RS) : KV σ (f_X12_readName N σ) := by
  unfold f_X12_readName
  exact (kv_st ⟨rfl, rfl, rfl, rfl⟩ (kr_f_X12_readName_5 N N (RS.setL σ 0)))
theorem kr_f_X12_readSign_306 (N : Nat) (σ : RS) (x1 : Int32) (x4 : Int32) : KV σ (f_X12_readSign_306 N σ x1 x4) := by
  unfold f_X12_readSign_306
  exact (kv_ite (kv_some ⟨rfl, rfl, rfl, rfl⟩) (kv_some ⟨rfl, rfl, rfl, rfl⟩))
theorem kr_f_X12_readSign_299 (N : Nat) (σ : RS) (x1 : Int32) : KV σ (f_X12_readSign_299 N σ x1) := by
  unfold f_X12_readSign_299
  exact (kv_st ⟨rfl, rfl, rfl, rfl⟩ (kr_f_X12_readSign_306 N σ x1 1))
theorem kr_f_X12_readSign_165 (N : Nat) (σ : RS) (x1 : Int32) (x3 : Int32) : KV σ (f_X12_readSign_165 N σ x1 x3) := by
  unfold f_X12_readSign_165
  exact (kv_ite (kv_ite (kv_st ⟨rfl, rfl, rfl, rfl⟩ (kr_f_X12_readSign_299 N σ x1)) (kv_ite (kv_st ⟨rfl, rfl, rfl, rfl⟩ (kr_f_X12_readSign_299 N σ x1)) (kv_ite (kv_st ⟨rfl, rfl, rfl, rfl⟩ (kr_f_X12_readSign_299 N σ x1)) (kv_ite (kv_st ⟨rfl, rfl, rfl, rfl⟩ (kr_f_X12_readSign_299 N σ x1)) (kv_ite (kv_st ⟨rfl, rfl, rfl, rfl⟩ (kr_f_X12_readSign_299 N σ x1)) (kv_ite (kv_st ⟨rfl, rfl, rfl, rfl⟩ (kr_f_X12_readSign_299 N σ x1)) (kv_ite (kv_st ⟨rfl, rfl, rfl, rfl⟩ (kr_f_X12_readSign_299 N σ x1)) (kv_ite (kv_st ⟨rfl, rfl, rfl, rfl⟩ (kr_f_X12_readSign_299 N σ x1)) (kv_ite (kv_st ⟨rfl, rfl, rfl, rfl⟩ (kr_f_X12_readSign_299 N σ x1)) (kv_ite (kv_st ⟨rfl, rfl, rfl, rfl⟩ (kr_f_X12_readSign_299 N σ x1)) (kv_ite (kv_st ⟨rfl, rfl, rfl, rfl⟩ (kr_f_X12_readSign_299 N σ x1)) (kv_ite (kv_st ⟨rfl, rfl, rfl, rfl⟩ (kr_f_X12_readSign_299 N σ x1)) (kv_ite (kv_st ⟨rfl, rfl, rfl, rfl⟩ (kr_f_X12_readSign_299 N σ x1)) (kv_ite (kv_st ⟨rfl, rfl, rfl, rfl⟩ (kr_f_X12_readSign_299 N σ x1)) (kv_ite (kv_st ⟨rfl, rfl, rfl, rfl⟩ (kr_f_X12_readSign_299 N σ x1)) (kv_ite (kv_st ⟨rfl, rfl, rfl, rfl⟩ (kr_f_X12_readSign_299 N σ x1)) (kv_ite (kv_st ⟨rfl, rfl, rfl, rfl⟩ (kr_f_X12_readSign_299 N σ x1)) (kv_ite (kv_st ⟨rfl, rfl, rfl, rfl⟩ (kr_f_X12_readSign_299 N σ x1)) (kv_ite (kv_st ⟨rfl, rfl, rfl, rfl⟩ (kr_f_X12_readSign_299 N σ x1)) (kv_st ⟨rfl, rfl, rfl, rfl⟩ (kr_f_X12_readSign_306 N σ x1 0))))))))))))))))))))) (kv_some ⟨rfl, rfl, rfl, rfl⟩))
theorem kr_f_X12_readSign_163 (N : Nat) (σ : RS) (x1 : Int32) : KV σ (f_X12_readSign_163 N σ x1) := by
  unfold f_X12_readSign_163
  exact (kv_st ⟨rfl, rfl, rfl, rfl⟩ (kr_f_X12_readSign_165 N σ x1 0))
theorem kr_f_X12_readSign_145 (N : Nat) (σ : RS) (x1 : Int32) (x2 : Int32) : KV σ (f_X12_readSign_145 N σ x1 x2) := by
  unfold f_X12_readSign_145
  exact (kv_ite (kv_ite (kv_st ⟨rfl, rfl, rfl, rfl⟩ (kr_f_X12_readSign_165 N σ x1 307)) (kv_st ⟨rfl, rfl, rfl, rfl⟩ (kr_f_X12_readSign_163 N σ x1))) (kv_st ⟨rfl, rfl, rfl, rfl⟩ (kr_f_X12_readSign_163 N σ x1)))
theorem kr_f_X12_readSign_127 (N : Nat) (σ : RS) (x1 : Int32) (x2 : Int32) : KV σ (f_X12_readSign_127 N σ x1 x2) := by
  unfold f_X12_readSign_127
  exact (kv_ite (kv_ite (kv_st ⟨rfl, rfl, rfl, rfl⟩ (kr_f_X12_readSign_165 N σ x1 306)) (kv_st ⟨rfl, rfl, rfl, rfl⟩ (kr_f_X12_readSign_145 N σ x1 x2))) (kv_st ⟨rfl, rfl, rfl, rfl⟩ (kr_f_X12_readSign_145 N σ x1 x2)))
theorem kr_f_X12_readSign_109 (N : Nat) (σ : RS) (x1 : Int32) (x2 : Int32) : KV σ (f_X12_readSign_109 N σ x1 x2) := by
  unfold f_X12_readSign_109
  exact (kv_ite (kv_ite (kv_st ⟨rfl, rfl, rfl, rfl⟩ (kr_f_X12_readSign_165 N σ x1 305)) (kv_st ⟨rfl, rfl, rfl, rfl⟩ (kr_f_X12_readSign_127 N σ x1 x2))) (kv_st ⟨rfl, rfl, rfl, rfl⟩ (kr_f_X12_readSign_127 N σ x1 x2)))
theorem kr_f_X12_readSign_91 (N : Nat) (σ : RS) (x1 : Int32) (x2 : Int32) : KV σ (f_X12_readSign_91 N σ x1 x2) := by
  unfold f_X12_readSign_91
  exact (kv_ite (kv_ite (kv_st ⟨rfl, rfl, rfl, rfl⟩ (kr_f_X12_readSign_165 N σ x1 304)) (kv_st ⟨rfl, rfl, rfl, rfl⟩ (kr_f_X12_readSign_109 N σ x1 x2))) (kv_st ⟨rfl, rfl, rfl, rfl⟩ (kr_f_X12_readSign_109 N σ x1 x2)))
theorem kr_f_X12_readSign_73 (N : Nat) (σ : RS) (x1 : Int32) (x2 : Int32) : KV σ (f_X12_readSign_73 N σ x1 x2) := by
  unfold f_X12_readSign_73
  exact (kv_ite (kv_ite (kv_st ⟨rfl, rfl, rfl, rfl⟩ (kr_f_X12_readSign_165 N σ x1 303)) (kv_st ⟨rfl, rfl, rfl, rfl⟩ (kr_f_X12_readSign_91 N σ x1 x2))) (kv_st ⟨rfl, rfl, rfl, rfl⟩ (kr_f_X12_readSign_91 N σ x1 x2)))
theorem kr_f_X12_readSign_55 (N : Nat) (σ : RS) (x1 : Int32) (x2 : Int32) : KV σ (f_X12_readSign_55 N σ x1 x2) := by
  unfold f_X12_readSign_55
  exact (kv_ite (kv_ite (kv_st ⟨rfl, rfl, rfl, rfl⟩ (kr_f_X12_readSign_165 N σ x1 302)) (kv_st ⟨rfl, rfl, rfl, rfl⟩ (kr_f_X12_readSign_73 N σ x1 x2))) (kv_st ⟨rfl, rfl, rfl, rfl⟩ (kr_f_X12_readSign_73 N σ x1 x2)))
theorem kr_f_X12_readSign_37 (N : Nat) (σ : RS) (x1 : Int32) (x2 : Int32) : KV σ (f_X12_readSign_37 N σ x1 x2) := by
  unfold f_X12_readSign_37
  exact (kv_ite (kv_ite (kv_st ⟨rfl, rfl, rfl, rfl⟩ (kr_f_X12_readSign_165 N σ x1 301)) (kv_st ⟨rfl, rfl, rfl, rfl⟩ (kr_f_X12_readSign_55 N σ x1 x2))) (kv_st ⟨rfl, rfl, rfl, rfl⟩ (kr_f_X12_readSign_55 N σ x1 x2)))
theorem kr_f_X12_readSign (N : Nat) (σ : RS) (x1 : Int32) : KV σ (f_X12_readSign N σ x1) := by
  unfold f_X12_readSign
  exact (kv_bind (kr_st ⟨rfl, rfl, rfl, rfl⟩ (kr_f_X12_at N (RS.setI σ 12 ((σ.i 12) + 1)) ((σ.i 12) + 1))) (fun p1 => (kv_ite (kv_ite (kv_st ⟨rfl, rfl, rfl, rfl⟩ (kr_f_X12_readSign_165 N p1.2 x1 300)) (kv_st ⟨rfl, rfl, rfl, rfl⟩ (kr_f_X12_readSign_37 N p1.2 x1 p1.1))) (kv_st ⟨rfl, rfl, rfl, rfl⟩ (kr_f_X12_readSign_37 N p1.2 x1 p1.1)))))
theorem kr_f_X12_next_211 (N : Nat) (σ : RS) : KV σ (f_X12_next_211 N σ) := by
  unfold f_X12_next_211
  exact (kv_some ⟨rfl, rfl, rfl, rfl⟩)
theorem kr_b_X12_next_116 (N : Nat) (K : RS → Option (RS)) (hK : ∀ (σ : RS), KV σ (K σ)) (σ : RS) : KV σ (b_X12_next_116 N K σ) := by
  unfold b_X12_next_116
  exact (kv_bind (kr_st ⟨rfl, rfl, rfl, rfl⟩ (kr_f_X12_at N σ (σ.i 12))) (fun p16 => (kv_bind (kr_st ⟨rfl, rfl, rfl, rfl⟩ (kr_f_X12_isDigit N p16.2 p16.1)) (fun p18 => (kv_ite (kv_ite (kv_st ⟨rfl, rfl, rfl, rfl⟩ (kr_f_X12_next_211 N (RS.setI p18.2 10 1))) (kv_st ⟨rfl, rfl, rfl, rfl⟩ (kr_f_X12_next_211 N (RS.setI p18.2 10 6)))) (kv_ite (kv_st ⟨rfl, rfl, rfl, rfl⟩ (hK (RS.setI (RS.setI p18.2 14 (p18.2.i 14)) 12 ((p18.2.i 12) + 1)))) (kv_bind (kr_st ⟨rfl, rfl, rfl, rfl⟩ (kr_f_X12_at N p18.2 (p18.2.i 12))) (fun p23 => (kv_st ⟨rfl, rfl, rfl, rfl⟩ (hK (RS.setI (RS.setI p23.2 14 (((10 * (p18.2.i 14)) + p23.1) - 48)) 12 ((p23.2.i 12) + 1))))))))))))
theorem kr_f_X12_next_116 (N : Nat) : ∀ (n : Nat) (σ : RS), KV σ (f_X12_next_116 N n σ )
  | 0, _ => kv_none
  | n+1, σ => kr_b_X12_next_116 N (f_X12_next_116 N n) (fun σ => kr_f_X12_next_116 N n σ) σ
theorem kr_f_X12_next_68 (N : Nat) (σ : RS) : KV σ (f_X12_next_68 N σ) := by
  unfold f_X12_next_68
  exact (kv_bind (kr_st ⟨rfl, rfl, rfl, rfl⟩ (kr_f_X12_at N (RS.setI σ 11 (σ.i 12)) (σ.i 12))) (fun p3 => (kv_ite (kv_some ⟨rfl, rfl, rfl, rfl⟩) (kv_bind (kr_st ⟨rfl, rfl, rfl, rfl⟩ (kr_f_X12_isDigit N p3.2 p3.1)) (fun p6 => (kv_ite (kv_bind (kr_st ⟨rfl, rfl, rfl, rfl⟩ (kr_f_X12_isLetter N p6.2 p3.1)) (fun p9 => (kv_ite (kv_bindv (kv_st ⟨rfl, rfl, rfl, rfl⟩ (kr_f_X12_readSign N p9.2 p3.1)) (fun p12 => (kv_some ⟨rfl, rfl, rfl, rfl⟩))) (kv_bindv (kv_st ⟨rfl, rfl, rfl, rfl⟩ (kr_f_X12_readName N p9.2)) (fun p14 => (kv_some ⟨rfl, rfl, rfl, rfl⟩)))))) (kv_st ⟨rfl, rfl, rfl, rfl⟩ (kr_f_X12_next_116 N N (RS.setI p6.2 14 0)))))))))
theorem kr_b_X12_next_18 (N : Nat) (K : RS → Option (RS)) (hK : ∀ (σ : RS), KV σ (K σ)) (σ : RS) : KV σ (b_X12_next_18 N K σ) := by
  unfold b_X12_next_18
  exact (kv_ite (kv_st ⟨rfl, rfl, rfl, rfl⟩ (kr_f_X12_next_68 N σ)) (kv_bind (kr_st ⟨rfl, rfl, rfl, rfl⟩ (kr_f_X12_at N σ (σ.i 12))) (fun p25 => (kv_ite (kv_st ⟨rfl, rfl, rfl, rfl⟩ (hK (RS.setI p25.2 12 ((p25.2.i 12) + 1)))) (kv_bind (kr_st ⟨rfl, rfl, rfl, rfl⟩ (kr_f_X12_at N p25.2 (p25.2.i 12))) (fun p28 => (kv_ite (kv_st ⟨rfl, rfl, rfl, rfl⟩ (hK (RS.setI p28.2 12 ((p28.2.i 12) + 1)))) (kv_st ⟨rfl, rfl, rfl, rfl⟩ (kr_f_X12_next_68 N p28.2)))))))))
theorem kr_f_X12_next_18 (N : Nat) : ∀ (n : Nat) (σ : RS), KV σ (f_X12_next_18 N n σ )
  | 0, _ => kv_none
  | n+1, σ => kr_b_X12_next_18 N (f_X12_next_18 N n) (fun σ => kr_f_X12_next_18 N n σ) σ
theorem kr_f_X12_next (N : Nat) (σ : RS) : KV σ (f_X12_next N σ) := by
  unfold f_X12_next
  exact (kv_ite (kv_st ⟨rfl, rfl, rfl, rfl⟩ (kr_f_X12_next_18 N N (RS.setI σ 17 ((σ.i 17) + 1)))) (kv_some ⟨rfl, rfl, rfl, rfl⟩))
theorem kr_f_X12_fail (N : Nat) (σ : RS) (x1 : Int32) (x2 : Int32) : KV σ (f_X12_fail N σ x1 x2) := by
  unfold f_X12_fail
  exact (kv_ite (kv_some ⟨rfl, rfl, rfl, rfl⟩) (kv_some ⟨rfl, rfl, rfl, rfl⟩))
theorem kr_f_X12_note (N : Nat) (σ : RS) (x1 : Int32) : KV σ (f_X12_note N σ x1) := by
  unfold f_X12_note
  exact (kv_ite (kv_ite (kv_some ⟨rfl, rfl, rfl, rfl⟩) (kv_some ⟨rfl, rfl, rfl, rfl⟩)) (kv_some ⟨rfl, rfl, rfl, rfl⟩))
theorem kr_f_X12_can_42 (N : Nat) (σ : RS) : KR σ (f_X12_can_42 N σ) := by
  unfold f_X12_can_42
  exact (kr_ite (kr_some ⟨rfl, rfl, rfl, rfl⟩) (kr_some ⟨rfl, rfl, rfl, rfl⟩))
theorem kr_f_X12_can_20 (N : Nat) (σ : RS) : KR σ (f_X12_can_20 N σ) := by
  unfold f_X12_can_20
  exact (kr_ite (kr_bindv (kv_st ⟨rfl, rfl, rfl, rfl⟩ (kr_f_X12_fail N σ 1 (σ.i 11))) (fun p7 => (kr_st ⟨rfl, rfl, rfl, rfl⟩ (kr_f_X12_can_42 N p7)))) (kr_bindv (kv_st ⟨rfl, rfl, rfl, rfl⟩ (kr_f_X12_fail N σ 2 (σ.i 11))) (fun p5 => (kr_st ⟨rfl, rfl, rfl, rfl⟩ (kr_f_X12_can_42 N p5)))))
theorem kr_f_X12_can (N : Nat) (σ : RS) (x1 : Int32) : KR σ (f_X12_can N σ x1) := by
  unfold f_X12_can
  exact (kr_ite (kr_ite (kr_st ⟨rfl, rfl, rfl, rfl⟩ (kr_f_X12_can_20 N σ)) (kr_ite (kr_st ⟨rfl, rfl, rfl, rfl⟩ (kr_f_X12_can_20 N σ)) (kr_st ⟨rfl, rfl, rfl, rfl⟩ (kr_f_X12_can_42 N σ)))) (kr_st ⟨rfl, rfl, rfl, rfl⟩ (kr_f_X12_can_42 N σ)))
theorem kr_f_X12_need_31 (N : Nat) (σ : RS) : KR σ (f_X12_need_31 N σ) := by
  unfold f_X12_need_31
  exact (kr_ite (kr_some ⟨rfl, rfl, rfl, rfl⟩) (kr_some ⟨rfl, rfl, rfl, rfl⟩))
theorem kr_f_X12_need_27 (N : Nat) (σ : RS) : KR σ (f_X12_need_27 N σ) := by
  unfold f_X12_need_27
  exact (kr_bindv (kv_st ⟨rfl, rfl, rfl, rfl⟩ (kr_f_X12_next N σ)) (fun p7 => (kr_st ⟨rfl, rfl, rfl, rfl⟩ (kr_f_X12_need_31 N p7))))
theorem kr_f_X12_need (N : Nat) (σ : RS) (x1 : Int32) : KR σ (f_X12_need N σ x1) := by
  unfold f_X12_need
  exact (kr_ite (kr_ite (kr_bind (kr_st ⟨rfl, rfl, rfl, rfl⟩ (kr_f_X12_can N σ 1)) (fun p9 => (kr_ite (kr_st ⟨rfl, rfl, rfl, rfl⟩ (kr_f_X12_need_31 N p9.2)) (kr_st ⟨rfl, rfl, rfl, rfl⟩ (kr_f_X12_need_27 N p9.2))))) (kr_bind (kr_st ⟨rfl, rfl, rfl, rfl⟩ (kr_f_X12_can N σ 0)) (fun p4 => (kr_ite (kr_st ⟨rfl, rfl, rfl, rfl⟩ (kr_f_X12_need_31 N p4.2)) (kr_st ⟨rfl, rfl, rfl, rfl⟩ (kr_f_X12_need_27 N p4.2)))))) (kr_st ⟨rfl, rfl, rfl, rfl⟩ (kr_f_X12_need_31 N σ)))
theorem kr_f_X12_opens_29 (N : Nat) (σ : RS) : KR σ (f_X12_opens_29 N σ) := by
  unfold f_X12_opens_29
  exact (kr_ite (kr_some ⟨rfl, rfl, rfl, rfl⟩) (kr_some ⟨rfl, rfl, rfl, rfl⟩))
theorem kr_f_X12_opens (N : Nat) (σ : RS) : KR σ (f_X12_opens N σ) := by
  unfold f_X12_opens
  exact (kr_ite (kr_st ⟨rfl, rfl, rfl, rfl⟩ (kr_f_X12_opens_29 N (RS.setI σ 19 ((σ.i 19) + 1)))) (kr_bindv (kv_st ⟨rfl, rfl, rfl, rfl⟩ (kr_f_X12_fail N (RS.setI σ 19 ((σ.i 19) + 1)) 6 (σ.i 11))) (fun p3 => (kr_st ⟨rfl, rfl, rfl, rfl⟩ (kr_f_X12_opens_29 N p3)))))
theorem kr_f_X12_open_38 (N : Nat) (σ : RS) : KR σ (f_X12_open_38 N σ) := by
  unfold f_X12_open_38
  exact (kr_ite (kr_some ⟨rfl, rfl, rfl, rfl⟩) (kr_some ⟨rfl, rfl, rfl, rfl⟩))
theorem kr_f_X12_open_27 (N : Nat) (σ : RS) : KR σ (f_X12_open_27 N σ) := by
  unfold f_X12_open_27
  exact (kr_bind (kr_st ⟨rfl, rfl, rfl, rfl⟩ (kr_f_X12_opens N σ)) (fun p7 => (kr_ite (kr_st ⟨rfl, rfl, rfl, rfl⟩ (kr_f_X12_open_38 N p7.2)) (kr_bindv (kv_st ⟨rfl, rfl, rfl, rfl⟩ (kr_f_X12_next N p7.2)) (fun p10 => (kr_st ⟨rfl, rfl, rfl, rfl⟩ (kr_f_X12_open_38 N p10)))))))
theorem kr_f_X12_open (N : Nat) (σ : RS) (x1 : Int32) : KR σ (f_X12_open N σ x1) := by
  unfold f_X12_open
  exact (kr_ite (kr_ite (kr_bind (kr_st ⟨rfl, rfl, rfl, rfl⟩ (kr_f_X12_can N σ 1)) (fun p12 => (kr_ite (kr_st ⟨rfl, rfl, rfl, rfl⟩ (kr_f_X12_open_38 N p12.2)) (kr_st ⟨rfl, rfl, rfl, rfl⟩ (kr_f_X12_open_27 N p12.2))))) (kr_bind (kr_st ⟨rfl, rfl, rfl, rfl⟩ (kr_f_X12_can N σ 0)) (fun p4 => (kr_ite (kr_st ⟨rfl, rfl, rfl, rfl⟩ (kr_f_X12_open_38 N p4.2)) (kr_st ⟨rfl, rfl, rfl, rfl⟩ (kr_f_X12_open_27 N p4.2)))))) (kr_st ⟨rfl, rfl, rfl, rfl⟩ (kr_f_X12_open_38 N σ)))
theorem kr_f_X12_shut_18 (N : Nat) (σ : RS) : KR σ (f_X12_shut_18 N σ) := by
  unfold f_X12_shut_18
  exact (kr_ite (kr_some ⟨rfl, rfl, rfl, rfl⟩) (kr_some ⟨rfl, rfl, rfl, rfl⟩))
theorem kr_f_X12_shut (N : Nat) (σ : RS) (x1 : Int32) : KR σ (f_X12_shut N σ x1) := by
  unfold f_X12_shut
  exact (kr_bind (kr_st ⟨rfl, rfl, rfl, rfl⟩ (kr_f_X12_need N σ x1)) (fun p1 => (kr_ite (kr_st ⟨rfl, rfl, rfl, rfl⟩ (kr_f_X12_shut_18 N p1.2)) (kr_st ⟨rfl, rfl, rfl, rfl⟩ (kr_f_X12_shut_18 N (RS.setI p1.2 19 ((p1.2.i 19) - 1)))))))
theorem kr_f_X12_emit_21 (N : Nat) (σ : RS) (x1 : Int32) (x2 : Int32) (x3 : Int32) : KR σ (f_X12_emit_21 N σ x1 x2 x3) := by
  unfold f_X12_emit_21
  exact (kr_ite (kr_some ⟨rfl, rfl, rfl, rfl⟩) kr_none)
theorem kr_f_X12_emit (N : Nat) (σ : RS) (x1 : Int32) (x2 : Int32) : KR σ (f_X12_emit N σ x1 x2) := by
  unfold f_X12_emit
  exact (kr_ite (kr_st ⟨rfl, rfl, rfl, rfl⟩ (kr_f_X12_emit_21 N σ x1 x2 2999)) (kr_st ⟨rfl, rfl, rfl, rfl⟩ (kr_f_X12_emit_21 N σ x1 x2 (σ.i 20))))
theorem kr_b_X12_seenAs_7 (N : Nat) (K : RS → Int64 → Int32 → Option (Int32 × RS)) (hK : ∀ (σ : RS) (y0 : Int64) (y1 : Int32), KR σ (K σ y0 y1)) (σ : RS) (x1 : Int64) (x3 : Int32) : KR σ (b_X12_seenAs_7 N K σ x1 x3) := by
  unfold b_X12_seenAs_7
  exact (kr_ite (kr_some ⟨rfl, rfl, rfl, rfl⟩) (kr_ite (kr_ite (kr_some ⟨rfl, rfl, rfl, rfl⟩) (kr_st ⟨rfl, rfl, rfl, rfl⟩ (hK σ x1 (x3 + (-1))))) kr_none))
theorem kr_f_X12_seenAs_7 (N : Nat) : ∀ (n : Nat) (σ : RS) (y0 : Int64) (y1 : Int32), KR σ (f_X12_seenAs_7 N n σ y0 y1)
  | 0, _, _, _ => kr_none
  | n+1, σ, y0, y1 => kr_b_X12_seenAs_7 N (f_X12_seenAs_7 N n) (fun σ y0 y1 => kr_f_X12_seenAs_7 N n σ y0 y1) σ y0 y1
theorem kr_f_X12_seenAs (N : Nat) (σ : RS) (x1 : Int64) : KR σ (f_X12_seenAs N σ x1) := by
  unfold f_X12_seenAs
  exact (kr_st ⟨rfl, rfl, rfl, rfl⟩ (kr_f_X12_seenAs_7 N N σ x1 ((σ.i 38) - 1)))
theorem kr_f_X12_see (N : Nat) (σ : RS) (x1 : Int64) (x3 : Int32) : KR σ (f_X12_see N σ x1 x3) := by
  unfold f_X12_see
  exact (kr_ite (kr_some ⟨rfl, rfl, rfl, rfl⟩) kr_none)
theorem kr_f_X12_goal (N : Nat) (σ : RS) (x1 : Int32) (x2 : Int64) : KR σ (f_X12_goal N σ x1 x2) := by
  unfold f_X12_goal
  exact (kr_ite (kr_some ⟨rfl, rfl, rfl, rfl⟩) kr_none)
theorem kr_f_X12_loopGoal_49 (N : Nat) (σ : RS) (x1 : Int32) : KR σ (f_X12_loopGoal_49 N σ x1) := by
  unfold f_X12_loopGoal_49
  exact (kr_some ⟨rfl, rfl, rfl, rfl⟩)
theorem kr_b_X12_loopGoal_11 (N : Nat) (K : RS → Int32 → Int32 → Option (Int32 × RS)) (hK : ∀ (σ : RS) (y0 : Int32) (y1 : Int32), KR σ (K σ y0 y1)) (σ : RS) (x1 : Int32) (x2 : Int32) : KR σ (b_X12_loopGoal_11 N K σ x1 x2) := by
  unfold b_X12_loopGoal_11
  exact (kr_ite (kr_st ⟨rfl, rfl, rfl, rfl⟩ (kr_f_X12_loopGoal_49 N σ x1)) (kr_ite (kr_ite (kr_ite (kr_st ⟨rfl, rfl, rfl, rfl⟩ (hK (RS.setA σ 46 ((x2 : Int32).toNatClampNeg) x1) x1 (x2 + (-1)))) (kr_st ⟨rfl, rfl, rfl, rfl⟩ (kr_f_X12_loopGoal_49 N σ x1))) (kr_st ⟨rfl, rfl, rfl, rfl⟩ (kr_f_X12_loopGoal_49 N σ x1))) kr_none))
theorem kr_f_X12_loopGoal_11 (N : Nat) : ∀ (n : Nat) (σ : RS) (y0 : Int32) (y1 : Int32), KR σ (f_X12_loopGoal_11 N n σ y0 y1)
  | 0, _, _, _ => kr_none
  | n+1, σ, y0, y1 => kr_b_X12_loopGoal_11 N (f_X12_loopGoal_11 N n) (fun σ y0 y1 => kr_f_X12_loopGoal_11 N n σ y0 y1) σ y0 y1
theorem kr_f_X12_loopGoal (N : Nat) (σ : RS) : KR σ (f_X12_loopGoal N σ) := by
  unfold f_X12_loopGoal
  exact (kr_bind (kr_st ⟨rfl, rfl, rfl, rfl⟩ (kr_f_X12_goal N σ 0 0)) (fun p1 => (kr_st ⟨rfl, rfl, rfl, rfl⟩ (kr_f_X12_loopGoal_11 N N p1.2 p1.1 (p1.1 - 1)))))
theorem kr_b_X12_patch_2 (N : Nat) (K : RS → Int32 → Int32 → Option (RS)) (hK : ∀ (σ : RS) (y0 : Int32) (y1 : Int32), KV σ (K σ y0 y1)) (σ : RS) (x2 : Int32) (x3 : Int32) : KV σ (b_X12_patch_2 N K σ x2 x3) := by
  unfold b_X12_patch_2
  exact (kv_ite (kv_some ⟨rfl, rfl, rfl, rfl⟩) (kv_ite (kv_st ⟨rfl, rfl, rfl, rfl⟩ (hK (RS.setA σ 22 ((x3 : Int32).toNatClampNeg) x2) x2 (σ.a 22 ((x3 : Int32).toNatClampNeg)))) kv_none))
theorem kr_f_X12_patch_2 (N : Nat) : ∀ (n : Nat) (σ : RS) (y0 : Int32) (y1 : Int32), KV σ (f_X12_patch_2 N n σ y0 y1)
  | 0, _, _, _ => kv_none
  | n+1, σ, y0, y1 => kr_b_X12_patch_2 N (f_X12_patch_2 N n) (fun σ y0 y1 => kr_f_X12_patch_2 N n σ y0 y1) σ y0 y1
theorem kr_f_X12_patch (N : Nat) (σ : RS) (x1 : Int32) (x2 : Int32) : KV σ (f_X12_patch N σ x1 x2) := by
  unfold f_X12_patch
  exact (kv_st ⟨rfl, rfl, rfl, rfl⟩ (kr_f_X12_patch_2 N N σ x2 x1))
theorem kr_f_X12_goes (N : Nat) (σ : RS) (x1 : Int32) (x2 : Int32) : KV σ (f_X12_goes N σ x1 x2) := by
  unfold f_X12_goes
  exact (kv_ite (kv_ite (kv_some ⟨rfl, rfl, rfl, rfl⟩) kv_none) (kv_ite (kv_some ⟨rfl, rfl, rfl, rfl⟩) kv_none))
theorem kr_f_X12_pend_22 (N : Nat) (σ : RS) (x1 : Int32) (x2 : Int32) : KV σ (f_X12_pend_22 N σ x1 x2) := by
  unfold f_X12_pend_22
  exact (kv_bindv (kv_st ⟨rfl, rfl, rfl, rfl⟩ (kr_f_X12_goes N σ x1 x2)) (fun p2 => (kv_some ⟨rfl, rfl, rfl, rfl⟩)))
theorem kr_f_X12_pend (N : Nat) (σ : RS) (x1 : Int32) (x2 : Int32) : KV σ (f_X12_pend N σ x1 x2) := by
  unfold f_X12_pend
  exact (kv_ite (kv_st ⟨rfl, rfl, rfl, rfl⟩ (kr_f_X12_pend_22 N σ x1 x2)) (kv_ite (kv_ite (kv_ite (kv_some ⟨rfl, rfl, rfl, rfl⟩) kv_none) (kv_st ⟨rfl, rfl, rfl, rfl⟩ (kr_f_X12_pend_22 N σ x1 x2))) kv_none))
theorem kr_b_X12_resolve_2 (N : Nat) (K : RS → Int32 → Int32 → Int32 → Option (RS)) (hK : ∀ (σ : RS) (y0 : Int32) (y1 : Int32) (y2 : Int32), KV σ (K σ y0 y1 y2)) (σ : RS) (x1 : Int32) (x2 : Int32) (x3 : Int32) : KV σ (b_X12_resolve_2 N K σ x1 x2 x3) := by
  unfold b_X12_resolve_2
  exact (kv_ite (kv_some ⟨rfl, rfl, rfl, rfl⟩) (kv_ite (kv_ite (kv_ite (kv_st ⟨rfl, rfl, rfl, rfl⟩ (hK (RS.setA σ 62 ((x3 : Int32).toNatClampNeg) (-1)) x1 x2 (x3 + 1))) (kv_ite (kv_bindv (kv_st ⟨rfl, rfl, rfl, rfl⟩ (kr_f_X12_goes N (RS.setA σ 62 ((x3 : Int32).toNatClampNeg) (-1)) (σ.a 60 ((x3 : Int32).toNatClampNeg)) (σ.a 61 ((x3 : Int32).toNatClampNeg)))) (fun p8 => (kv_st ⟨rfl, rfl, rfl, rfl⟩ (hK p8 x1 x2 (x3 + 1))))) (kv_ite (kv_ite (kv_bindv (kv_st ⟨rfl, rfl, rfl, rfl⟩ (kr_f_X12_goes N (RS.setA σ 62 ((x3 : Int32).toNatClampNeg) (-1)) (σ.a 60 ((x3 : Int32).toNatClampNeg)) (σ.a 61 ((x3 : Int32).toNatClampNeg)))) (fun p13 => (kv_st ⟨rfl, rfl, rfl, rfl⟩ (hK p13 x1 x2 (x3 + 1))))) (kv_st ⟨rfl, rfl, rfl, rfl⟩ (hK (RS.setA σ 62 ((x3 : Int32).toNatClampNeg) (σ.a 57 ((((σ.i 56) - 1) : Int32).toNatClampNeg))) x1 x2 (x3 + 1)))) kv_none))) (kv_st ⟨rfl, rfl, rfl, rfl⟩ (hK σ x1 x2 (x3 + 1)))) kv_none))
theorem kr_f_X12_resolve_2 (N : Nat) : ∀ (n : Nat) (σ : RS) (y0 : Int32) (y1 : Int32) (y2 : Int32), KV σ (f_X12_resolve_2 N n σ y0 y1 y2)
  | 0, _, _, _, _ => kv_none
  | n+1, σ, y0, y1, y2 => kr_b_X12_resolve_2 N (f_X12_resolve_2 N n) (fun σ y0 y1 y2 => kr_f_X12_resolve_2 N n σ y0 y1 y2) σ y0 y1 y2
theorem kr_f_X12_resolve (N : Nat) (σ : RS) (x1 : Int32) (x2 : Int32) : KV σ (f_X12_resolve N σ x1 x2) := by
  unfold f_X12_resolve
  exact (kv_st ⟨rfl, rfl, rfl, rfl⟩ (kr_f_X12_resolve_2 N N σ x1 x2 0))
theorem kr_f_X12_push (N : Nat) (σ : RS) (x1 : Int32) : KV σ (f_X12_push N σ x1) := by
  unfold f_X12_push
  exact (kv_ite (kv_some ⟨rfl, rfl, rfl, rfl⟩) kv_none)
theorem kr_f_X12_then (N : Nat) (σ : RS) (x1 : Int32) (x2 : Int32) : KV σ (f_X12_then N σ x1 x2) := by
  unfold f_X12_then
  exact (kv_ite (kv_bindv (kv_st ⟨rfl, rfl, rfl, rfl⟩ (kr_f_X12_push N (RS.setA σ 65 (((σ.i 63) : Int32).toNatClampNeg) x1) x2)) (fun p2 => (kv_some ⟨rfl, rfl, rfl, rfl⟩))) kv_none)
theorem kr_f_X12_body_32 (N : Nat) (σ : RS) (x1 : Int32) : KV σ (f_X12_body_32 N σ x1) := by
  unfold f_X12_body_32
  exact (kv_bindv (kv_st ⟨rfl, rfl, rfl, rfl⟩ (kr_f_X12_then N σ x1 2)) (fun p5 => (kv_some ⟨rfl, rfl, rfl, rfl⟩)))
theorem kr_f_X12_body (N : Nat) (σ : RS) (x1 : Int32) : KV σ (f_X12_body N σ x1) := by
  unfold f_X12_body
  exact (kv_ite (kv_bind (kr_st ⟨rfl, rfl, rfl, rfl⟩ (kr_f_X12_can N σ 0)) (fun p2 => (kv_ite (kv_some ⟨rfl, rfl, rfl, rfl⟩) (kv_st ⟨rfl, rfl, rfl, rfl⟩ (kr_f_X12_body_32 N p2.2 x1))))) (kv_ite (kv_bind (kr_st ⟨rfl, rfl, rfl, rfl⟩ (kr_f_X12_can N σ 0)) (fun p8 => (kv_ite (kv_some ⟨rfl, rfl, rfl, rfl⟩) (kv_st ⟨rfl, rfl, rfl, rfl⟩ (kr_f_X12_body_32 N p8.2 x1))))) (kv_bind (kr_st ⟨rfl, rfl, rfl, rfl⟩ (kr_f_X12_can N σ 1)) (fun p11 => (kv_ite (kv_some ⟨rfl, rfl, rfl, rfl⟩) (kv_st ⟨rfl, rfl, rfl, rfl⟩ (kr_f_X12_body_32 N p11.2 x1)))))))
theorem kr_f_X12_over (N : Nat) (σ : RS) (x1 : Int32) : KV σ (f_X12_over N σ x1) := by
  unfold f_X12_over
  exact (kv_ite (kv_some ⟨rfl, rfl, rfl, rfl⟩) kv_none)
theorem kr_f_X12_list_73 (N : Nat) (σ : RS) (x1 : Int32) : KV σ (f_X12_list_73 N σ x1) := by
  unfold f_X12_list_73
  exact (kv_ite (kv_ite (kv_bindv (kv_st ⟨rfl, rfl, rfl, rfl⟩ (kr_f_X12_over N σ 1)) (fun p9 => (kv_some ⟨rfl, rfl, rfl, rfl⟩))) (kv_bindv (kv_st ⟨rfl, rfl, rfl, rfl⟩ (kr_f_X12_over N σ 0)) (fun p7 => (kv_some ⟨rfl, rfl, rfl, rfl⟩)))) kv_none)
theorem kr_f_X12_list_110 (N : Nat) (σ : RS) : KV σ (f_X12_list_110 N σ) := by
  unfold f_X12_list_110
  exact (kv_bindv (kv_st ⟨rfl, rfl, rfl, rfl⟩ (kr_f_X12_then N σ 1 2)) (fun p16 => (kv_some ⟨rfl, rfl, rfl, rfl⟩)))
theorem kr_f_X12_list_37 (N : Nat) (σ : RS) (x1 : Int32) : KV σ (f_X12_list_37 N σ x1) := by
  unfold f_X12_list_37
  exact (kv_ite (kv_st ⟨rfl, rfl, rfl, rfl⟩ (kr_f_X12_list_73 N σ x1)) (kv_ite (kv_st ⟨rfl, rfl, rfl, rfl⟩ (kr_f_X12_list_73 N σ x1)) (kv_ite (kv_st ⟨rfl, rfl, rfl, rfl⟩ (kr_f_X12_list_73 N σ x1)) (kv_ite (kv_st ⟨rfl, rfl, rfl, rfl⟩ (kr_f_X12_list_73 N σ x1)) (kv_ite (kv_ite (kv_bindv (kv_st ⟨rfl, rfl, rfl, rfl⟩ (kr_f_X12_note N σ (σ.i 11))) (fun p18 => (kv_st ⟨rfl, rfl, rfl, rfl⟩ (kr_f_X12_list_110 N p18)))) (kv_st ⟨rfl, rfl, rfl, rfl⟩ (kr_f_X12_list_110 N σ))) kv_none)))))
theorem kr_f_X12_list (N : Nat) (σ : RS) (x1 : Int32) : KV σ (f_X12_list N σ x1) := by
  unfold f_X12_list
  exact (kv_ite (kv_ite (kv_st ⟨rfl, rfl, rfl, rfl⟩ (kr_f_X12_list_37 N (RS.setA σ 66 ((x1 : Int32).toNatClampNeg) 1) x1)) (kv_ite (kv_st ⟨rfl, rfl, rfl, rfl⟩ (kr_f_X12_list_37 N (RS.setA σ 66 ((x1 : Int32).toNatClampNeg) 0) x1)) (kv_st ⟨rfl, rfl, rfl, rfl⟩ (kr_f_X12_list_37 N (RS.setA σ 66 ((x1 : Int32).toNatClampNeg) 1) x1)))) kv_none)
theorem kr_f_X12_jump_317 (N : Nat) (σ : RS) : KV σ (f_X12_jump_317 N σ) := by
  unfold f_X12_jump_317
  exact (kv_bind (kr_st ⟨rfl, rfl, rfl, rfl⟩ (kr_f_X12_need N σ 59)) (fun p18 => (kv_some ⟨rfl, rfl, rfl, rfl⟩)))
theorem kr_f_X12_jump_302 (N : Nat) (σ : RS) (x1 : Int32) (x3 : Int32) (x4 : Int32) : KV σ (f_X12_jump_302 N σ x1 x3 x4) := by
  unfold f_X12_jump_302
  exact (kv_bindv (kv_st ⟨rfl, rfl, rfl, rfl⟩ (kr_f_X12_pend N σ x4 x1)) (fun p15 => (kv_ite (kv_st ⟨rfl, rfl, rfl, rfl⟩ (kr_f_X12_jump_317 N p15)) (kv_bindv (kv_st ⟨rfl, rfl, rfl, rfl⟩ (kr_f_X12_next N p15)) (fun p20 => (kv_st ⟨rfl, rfl, rfl, rfl⟩ (kr_f_X12_jump_317 N p20)))))))
theorem kr_f_X12_jump_263 (N : Nat) (σ : RS) (x1 : Int32) (x3 : Int32) (x4 : Int32) (x5 : Int32) : KV σ (f_X12_jump_263 N σ x1 x3 x4 x5) := by
  unfold f_X12_jump_263
  exact (kv_ite (kv_ite (kv_ite (kv_st ⟨rfl, rfl, rfl, rfl⟩ (kr_f_X12_jump_302 N (RS.setA (RS.setA σ 23 ((x5 : Int32).toNatClampNeg) (σ.a 47 ((x4 : Int32).toNatClampNeg))) 49 ((x4 : Int32).toNatClampNeg) x5) x1 x3 x4)) (kv_st ⟨rfl, rfl, rfl, rfl⟩ (kr_f_X12_jump_302 N (RS.setA (RS.setA σ 23 ((x5 : Int32).toNatClampNeg) (σ.a 47 ((x4 : Int32).toNatClampNeg))) 48 ((x4 : Int32).toNatClampNeg) x5) x1 x3 x4))) kv_none) kv_none)
theorem kr_f_X12_jump_234 (N : Nat) (σ : RS) (x1 : Int32) (x3 : Int32) (x4 : Int32) : KV σ (f_X12_jump_234 N σ x1 x3 x4) := by
  unfold f_X12_jump_234
  exact (kv_ite (kv_ite (kv_bind (kr_st ⟨rfl, rfl, rfl, rfl⟩ (kr_f_X12_emit N σ 36 (σ.a 49 ((x4 : Int32).toNatClampNeg)))) (fun p10 => (kv_st ⟨rfl, rfl, rfl, rfl⟩ (kr_f_X12_jump_263 N p10.2 x1 x3 x4 p10.1)))) kv_none) (kv_ite (kv_bind (kr_st ⟨rfl, rfl, rfl, rfl⟩ (kr_f_X12_emit N σ 36 (σ.a 48 ((x4 : Int32).toNatClampNeg)))) (fun p23 => (kv_st ⟨rfl, rfl, rfl, rfl⟩ (kr_f_X12_jump_263 N p23.2 x1 x3 x4 p23.1)))) kv_none))
theorem kr_f_X12_jump_171 (N : Nat) (σ : RS) (x1 : Int32) (x2 : Int32) (x3 : Int32) (x4 : Int32) : KV σ (f_X12_jump_171 N σ x1 x2 x3 x4) := by
  unfold f_X12_jump_171
  exact (kv_ite (kv_ite (kv_st ⟨rfl, rfl, rfl, rfl⟩ (kr_f_X12_jump_234 N σ x1 x3 x4)) (kv_ite (kv_ite (kv_ite (kv_st ⟨rfl, rfl, rfl, rfl⟩ (kr_f_X12_jump_234 N σ x1 x3 (σ.a 46 ((x4 : Int32).toNatClampNeg)))) (kv_bindv (kv_st ⟨rfl, rfl, rfl, rfl⟩ (kr_f_X12_fail N σ 5 (σ.i 11))) (fun p28 => (kv_some ⟨rfl, rfl, rfl, rfl⟩)))) kv_none) (kv_st ⟨rfl, rfl, rfl, rfl⟩ (kr_f_X12_jump_234 N σ x1 x3 x4)))) (kv_ite (kv_bindv (kv_st ⟨rfl, rfl, rfl, rfl⟩ (kr_f_X12_fail N σ 5 x2)) (fun p32 => (kv_some ⟨rfl, rfl, rfl, rfl⟩))) (kv_bindv (kv_st ⟨rfl, rfl, rfl, rfl⟩ (kr_f_X12_fail N σ 3 (σ.i 11))) (fun p35 => (kv_some ⟨rfl, rfl, rfl, rfl⟩)))))
theorem kr_b_X12_jump_60 (N : Nat) (K : RS → Int32 → Int32 → Int32 → Int32 → Int32 → Option (RS)) (hK : ∀ (σ : RS) (y0 : Int32) (y1 : Int32) (y2 : Int32) (y3 : Int32) (y4 : Int32), KV σ (K σ y0 y1 y2 y3 y4)) (σ : RS) (x1 : Int32) (x2 : Int32) (x3 : Int32) (x4 : Int32) (x5 : Int32) : KV σ (b_X12_jump_60 N K σ x1 x2 x3 x4 x5) := by
  unfold b_X12_jump_60
  exact (kv_ite (kv_st ⟨rfl, rfl, rfl, rfl⟩ (kr_f_X12_jump_171 N σ x1 x2 x3 x4)) (kv_ite (kv_ite (kv_st ⟨rfl, rfl, rfl, rfl⟩ (kr_f_X12_jump_171 N σ x1 x2 x3 x4)) (kv_ite (kv_st ⟨rfl, rfl, rfl, rfl⟩ (kr_f_X12_jump_171 N σ x1 x2 x3 x4)) (kv_ite (kv_ite (kv_st ⟨rfl, rfl, rfl, rfl⟩ (hK σ x1 x2 x3 x5 (x5 + (-1)))) (kv_ite (kv_st ⟨rfl, rfl, rfl, rfl⟩ (hK σ x1 x2 x3 x4 (x5 + (-1)))) (kv_ite (kv_st ⟨rfl, rfl, rfl, rfl⟩ (hK σ x1 x2 x3 x5 (x5 + (-1)))) (kv_st ⟨rfl, rfl, rfl, rfl⟩ (hK σ x1 x2 x3 x4 (x5 + (-1))))))) (kv_ite (kv_ite (kv_st ⟨rfl, rfl, rfl, rfl⟩ (hK σ x1 x2 x3 x5 (x5 + (-1)))) (kv_st ⟨rfl, rfl, rfl, rfl⟩ (hK σ x1 x2 x3 x4 (x5 + (-1))))) (kv_st ⟨rfl, rfl, rfl, rfl⟩ (hK σ x1 x2 x3 x4 (x5 + (-1)))))))) kv_none))
theorem kr_f_X12_jump_60 (N : Nat) : ∀ (n : Nat) (σ : RS) (y0 : Int32) (y1 : Int32) (y2 : Int32) (y3 : Int32) (y4 : Int32), KV σ (f_X12_jump_60 N n σ y0 y1 y2 y3 y4)
  | 0, _, _, _, _, _, _ => kv_none
  | n+1, σ, y0, y1, y2, y3, y4 => kr_b_X12_jump_60 N (f_X12_jump_60 N n) (fun σ y0 y1 y2 y3 y4 => kr_f_X12_jump_60 N n σ y0 y1 y2 y3 y4) σ y0 y1 y2 y3 y4
theorem kr_f_X12_jump_49 (N : Nat) (σ : RS) (x1 : Int32) (x2 : Int32) (x3 : Int32) : KV σ (f_X12_jump_49 N σ x1 x2 x3) := by
  unfold f_X12_jump_49
  exact (kv_st ⟨rfl, rfl, rfl, rfl⟩ (kr_f_X12_jump_60 N N σ x1 x2 x3 (-1) ((σ.i 43) - 1)))
theorem kr_f_X12_jump_16 (N : Nat) (σ : RS) (x1 : Int32) : KV σ (f_X12_jump_16 N σ x1) := by
  unfold f_X12_jump_16
  exact (kv_bindv (kv_st ⟨rfl, rfl, rfl, rfl⟩ (kr_f_X12_next N (RS.setI σ 55 ((σ.i 55) + 1)))) (fun p2 => (kv_ite (kv_st ⟨rfl, rfl, rfl, rfl⟩ (kr_f_X12_jump_49 N p2 x1 (σ.i 11) 1)) (kv_st ⟨rfl, rfl, rfl, rfl⟩ (kr_f_X12_jump_49 N p2 x1 (σ.i 11) 0)))))
theorem kr_f_X12_jump (N : Nat) (σ : RS) : KV σ (f_X12_jump N σ) := by
  unfold f_X12_jump
  exact (kv_ite (kv_st ⟨rfl, rfl, rfl, rfl⟩ (kr_f_X12_jump_16 N σ 1)) (kv_st ⟨rfl, rfl, rfl, rfl⟩ (kr_f_X12_jump_16 N σ 0)))
theorem kr_f_X12_stat_309 (N : Nat) (σ : RS) : KV σ (f_X12_stat_309 N σ) := by
  unfold f_X12_stat_309
  exact (kv_bind (kr_st ⟨rfl, rfl, rfl, rfl⟩ (kr_f_X12_emit N σ 1 0)) (fun p10 => (kv_ite (kv_bindv (kv_st ⟨rfl, rfl, rfl, rfl⟩ (kr_f_X12_next N p10.2)) (fun p17 => (kv_bindv (kv_st ⟨rfl, rfl, rfl, rfl⟩ (kr_f_X12_over N p17 1)) (fun p19 => (kv_some ⟨rfl, rfl, rfl, rfl⟩))))) (kv_bindv (kv_st ⟨rfl, rfl, rfl, rfl⟩ (kr_f_X12_jump N p10.2)) (fun p13 => (kv_bindv (kv_st ⟨rfl, rfl, rfl, rfl⟩ (kr_f_X12_over N p13 0)) (fun p15 => (kv_some ⟨rfl, rfl, rfl, rfl⟩))))))))
theorem kr_f_X12_stat_240 (N : Nat) (σ : RS) (x1 : Int32) : KV σ (f_X12_stat_240 N σ x1) := by
  unfold f_X12_stat_240
  exact (kv_ite (kv_ite (kv_ite (kv_bind (kr_st ⟨rfl, rfl, rfl, rfl⟩ (kr_f_X12_can N σ 1)) (fun p7 => (kv_ite (kv_some ⟨rfl, rfl, rfl, rfl⟩) (kv_st ⟨rfl, rfl, rfl, rfl⟩ (kr_f_X12_stat_309 N p7.2))))) (kv_ite (kv_bind (kr_st ⟨rfl, rfl, rfl, rfl⟩ (kr_f_X12_can N σ 1)) (fun p22 => (kv_ite (kv_some ⟨rfl, rfl, rfl, rfl⟩) (kv_st ⟨rfl, rfl, rfl, rfl⟩ (kr_f_X12_stat_309 N p22.2))))) (kv_ite (kv_bind (kr_st ⟨rfl, rfl, rfl, rfl⟩ (kr_f_X12_can N σ 1)) (fun p29 => (kv_ite (kv_some ⟨rfl, rfl, rfl, rfl⟩) (kv_st ⟨rfl, rfl, rfl, rfl⟩ (kr_f_X12_stat_309 N p29.2))))) (kv_bind (kr_st ⟨rfl, rfl, rfl, rfl⟩ (kr_f_X12_can N σ 0)) (fun p26 => (kv_ite (kv_some ⟨rfl, rfl, rfl, rfl⟩) (kv_st ⟨rfl, rfl, rfl, rfl⟩ (kr_f_X12_stat_309 N p26.2)))))))) (kv_ite (kv_some ⟨rfl, rfl, rfl, rfl⟩) (kv_bind (kr_st ⟨rfl, rfl, rfl, rfl⟩ (kr_f_X12_emit N σ 1 0)) (fun p33 => (kv_some ⟨rfl, rfl, rfl, rfl⟩))))) kv_none)
theorem kr_f_X12_stat (N : Nat) (σ : RS) (x1 : Int32) : KV σ (f_X12_stat N σ x1) := by
  unfold f_X12_stat
  exact (kv_ite (kv_ite (kv_some ⟨rfl, rfl, rfl, rfl⟩) kv_none) (kv_ite (kv_ite (kv_st ⟨rfl, rfl, rfl, rfl⟩ (kr_f_X12_stat_240 N (RS.setA (RS.setI σ 53 ((σ.i 53) + 1)) 64 ((x1 : Int32).toNatClampNeg) 4) x1)) kv_none) (kv_ite (kv_ite (kv_st ⟨rfl, rfl, rfl, rfl⟩ (kr_f_X12_stat_240 N (RS.setA (RS.setI σ 53 ((σ.i 53) + 1)) 64 ((x1 : Int32).toNatClampNeg) 4) x1)) kv_none) (kv_ite (kv_ite (kv_st ⟨rfl, rfl, rfl, rfl⟩ (kr_f_X12_stat_240 N (RS.setA (RS.setI σ 53 ((σ.i 53) + 1)) 64 ((x1 : Int32).toNatClampNeg) 5) x1)) kv_none) (kv_ite (kv_ite (kv_st ⟨rfl, rfl, rfl, rfl⟩ (kr_f_X12_stat_240 N (RS.setA (RS.setI σ 53 ((σ.i 53) + 1)) 64 ((x1 : Int32).toNatClampNeg) 6) x1)) kv_none) (kv_ite (kv_ite (kv_st ⟨rfl, rfl, rfl, rfl⟩ (kr_f_X12_stat_240 N (RS.setA (RS.setI σ 53 ((σ.i 53) + 1)) 64 ((x1 : Int32).toNatClampNeg) 6) x1)) kv_none) (kv_ite (kv_ite (kv_st ⟨rfl, rfl, rfl, rfl⟩ (kr_f_X12_stat_240 N (RS.setA (RS.setI σ 53 ((σ.i 53) + 1)) 64 ((x1 : Int32).toNatClampNeg) 6) x1)) kv_none) (kv_ite (kv_ite (kv_st ⟨rfl, rfl, rfl, rfl⟩ (kr_f_X12_stat_240 N (RS.setA (RS.setI σ 53 ((σ.i 53) + 1)) 64 ((x1 : Int32).toNatClampNeg) 7) x1)) kv_none) (kv_ite (kv_ite (kv_st ⟨rfl, rfl, rfl, rfl⟩ (kr_f_X12_stat_240 N (RS.setA (RS.setI σ 53 ((σ.i 53) + 1)) 64 ((x1 : Int32).toNatClampNeg) 8) x1)) kv_none) (kv_ite (kv_ite (kv_st ⟨rfl, rfl, rfl, rfl⟩ (kr_f_X12_stat_240 N (RS.setA (RS.setI σ 53 ((σ.i 53) + 1)) 64 ((x1 : Int32).toNatClampNeg) 9) x1)) kv_none) (kv_ite (kv_ite (kv_st ⟨rfl, rfl, rfl, rfl⟩ (kr_f_X12_stat_240 N (RS.setA (RS.setI σ 53 ((σ.i 53) + 1)) 64 ((x1 : Int32).toNatClampNeg) 10) x1)) kv_none) (kv_ite (kv_ite (kv_st ⟨rfl, rfl, rfl, rfl⟩ (kr_f_X12_stat_240 N (RS.setA (RS.setI σ 53 ((σ.i 53) + 1)) 64 ((x1 : Int32).toNatClampNeg) 11) x1)) kv_none) (kv_ite (kv_ite (kv_st ⟨rfl, rfl, rfl, rfl⟩ (kr_f_X12_stat_240 N (RS.setA (RS.setI σ 53 ((σ.i 53) + 1)) 64 ((x1 : Int32).toNatClampNeg) 12) x1)) kv_none) (kv_ite (kv_ite (kv_st ⟨rfl, rfl, rfl, rfl⟩ (kr_f_X12_stat_240 N (RS.setA (RS.setI σ 53 ((σ.i 53) + 1)) 64 ((x1 : Int32).toNatClampNeg) 13) x1)) kv_none) (kv_ite (kv_ite (kv_st ⟨rfl, rfl, rfl, rfl⟩ (kr_f_X12_stat_240 N (RS.setA (RS.setI σ 53 ((σ.i 53) + 1)) 64 ((x1 : Int32).toNatClampNeg) 14) x1)) kv_none) (kv_ite (kv_ite (kv_st ⟨rfl, rfl, rfl, rfl⟩ (kr_f_X12_stat_240 N (RS.setA (RS.setI σ 53 ((σ.i 53) + 1)) 64 ((x1 : Int32).toNatClampNeg) 15) x1)) kv_none) (kv_ite (kv_st ⟨rfl, rfl, rfl, rfl⟩ (kr_f_X12_stat_240 N (RS.setA (RS.setI σ 53 ((σ.i 53) + 1)) 64 ((x1 : Int32).toNatClampNeg) 2) x1)) kv_none)))))))))))))))))
theorem kr_f_X12_block (N : Nat) (σ : RS) (x1 : Int32) : KV σ (f_X12_block N σ x1) := by
  unfold f_X12_block
  exact (kv_ite (kv_ite (kv_bind (kr_st ⟨rfl, rfl, rfl, rfl⟩ (kr_f_X12_open N σ 123)) (fun p5 => (kv_bindv (kv_st ⟨rfl, rfl, rfl, rfl⟩ (kr_f_X12_then N (RS.setA p5.2 66 ((x1 : Int32).toNatClampNeg) (p5.2.i 38)) 1 1)) (fun p7 => (kv_some ⟨rfl, rfl, rfl, rfl⟩))))) (kv_bind (kr_st ⟨rfl, rfl, rfl, rfl⟩ (kr_f_X12_shut N σ 125)) (fun p3 => (kv_some ⟨rfl, rfl, rfl, rfl⟩)))) kv_none)
theorem kr_f_X12_telling_22 (N : Nat) (σ : RS) (x1 : Int32) : KR σ (f_X12_telling_22 N σ x1) := by
  unfold f_X12_telling_22
  exact (kr_bind (kr_st ⟨rfl, rfl, rfl, rfl⟩ (kr_f_X12_seenAs N σ σ.l)) (fun p5 => (kr_ite (kr_ite (kr_bindv (kv_st ⟨rfl, rfl, rfl, rfl⟩ (kr_f_X12_next N (RS.setB (RS.setI p5.2 54 ((p5.2.i 54) + 1)) 74 ((x1 : Int32).toNatClampNeg) p5.2.l))) (fun p9 => (kr_some ⟨rfl, rfl, rfl, rfl⟩))) kr_none) (kr_bindv (kv_st ⟨rfl, rfl, rfl, rfl⟩ (kr_f_X12_fail N p5.2 4 (p5.2.i 11))) (fun p11 => (kr_some ⟨rfl, rfl, rfl, rfl⟩))))))
theorem kr_f_X12_telling_20 (N : Nat) (σ : RS) : KR σ (f_X12_telling_20 N σ) := by
  unfold f_X12_telling_20
  exact (kr_some ⟨rfl, rfl, rfl, rfl⟩)
theorem kr_f_X12_telling (N : Nat) (σ : RS) (x1 : Int32) : KR σ (f_X12_telling N σ x1) := by
  unfold f_X12_telling
  exact (kr_ite (kr_bind (kr_st ⟨rfl, rfl, rfl, rfl⟩ (kr_f_X12_can N σ 1)) (fun p13 => (kr_ite (kr_st ⟨rfl, rfl, rfl, rfl⟩ (kr_f_X12_telling_20 N p13.2)) (kr_st ⟨rfl, rfl, rfl, rfl⟩ (kr_f_X12_telling_22 N p13.2 x1))))) (kr_bind (kr_st ⟨rfl, rfl, rfl, rfl⟩ (kr_f_X12_can N σ 0)) (fun p2 => (kr_ite (kr_st ⟨rfl, rfl, rfl, rfl⟩ (kr_f_X12_telling_20 N p2.2)) (kr_st ⟨rfl, rfl, rfl, rfl⟩ (kr_f_X12_telling_22 N p2.2 x1))))))
theorem kr_f_X12_tell (N : Nat) (σ : RS) (x1 : Int32) : KV σ (f_X12_tell N σ x1) := by
  unfold f_X12_tell
  exact (kv_ite (kv_ite (kv_bindv (kv_st ⟨rfl, rfl, rfl, rfl⟩ (kr_f_X12_next N σ)) (fun p11 => (kv_ite (kv_bind (kr_st ⟨rfl, rfl, rfl, rfl⟩ (kr_f_X12_telling N p11 x1)) (fun p14 => (kv_ite (kv_some ⟨rfl, rfl, rfl, rfl⟩) (kv_bind (kr_st ⟨rfl, rfl, rfl, rfl⟩ (kr_f_X12_need N p14.2 61)) (fun p17 => (kv_bindv (kv_st ⟨rfl, rfl, rfl, rfl⟩ (kr_f_X12_then N p17.2 1 16)) (fun p19 => (kv_some ⟨rfl, rfl, rfl, rfl⟩)))))))) (kv_some ⟨rfl, rfl, rfl, rfl⟩)))) (kv_bind (kr_st ⟨rfl, rfl, rfl, rfl⟩ (kr_f_X12_see N σ (σ.b 74 ((x1 : Int32).toNatClampNeg)) 0)) (fun p3 => (kv_bind (kr_st ⟨rfl, rfl, rfl, rfl⟩ (kr_f_X12_emit N p3.2 5 p3.1)) (fun p5 => (kv_bind (kr_st ⟨rfl, rfl, rfl, rfl⟩ (kr_f_X12_need N p5.2 59)) (fun p7 => (kv_bindv (kv_st ⟨rfl, rfl, rfl, rfl⟩ (kr_f_X12_over N p7.2 1)) (fun p9 => (kv_some ⟨rfl, rfl, rfl, rfl⟩)))))))))) kv_none)
theorem kr_f_X12_label_188 (N : Nat) (σ : RS) : KV σ (f_X12_label_188 N σ) := by
  unfold f_X12_label_188
  exact (kv_bindv (kv_st ⟨rfl, rfl, rfl, rfl⟩ (kr_f_X12_body N σ 1)) (fun p10 => (kv_some ⟨rfl, rfl, rfl, rfl⟩)))
theorem kr_f_X12_label_168 (N : Nat) (σ : RS) : KV σ (f_X12_label_168 N σ) := by
  unfold f_X12_label_168
  exact (kv_st ⟨rfl, rfl, rfl, rfl⟩ (kr_f_X12_label_188 N σ))
theorem kr_b_X12_label_125 (N : Nat) (K : RS → Int32 → Option (RS)) (hK : ∀ (σ : RS) (y0 : Int32), KV σ (K σ y0)) (σ : RS) (x6 : Int32) : KV σ (b_X12_label_125 N K σ x6) := by
  unfold b_X12_label_125
  exact (kv_ite (kv_st ⟨rfl, rfl, rfl, rfl⟩ (kr_f_X12_label_168 N σ)) (kv_ite (kv_ite (kv_ite (kv_st ⟨rfl, rfl, rfl, rfl⟩ (hK (RS.setA σ 46 ((x6 : Int32).toNatClampNeg) (-3)) (x6 + (-1)))) (kv_st ⟨rfl, rfl, rfl, rfl⟩ (kr_f_X12_label_168 N σ))) (kv_st ⟨rfl, rfl, rfl, rfl⟩ (kr_f_X12_label_168 N σ))) kv_none))
theorem kr_f_X12_label_125 (N : Nat) : ∀ (n : Nat) (σ : RS) (y0 : Int32), KV σ (f_X12_label_125 N n σ y0)
  | 0, _, _ => kv_none
  | n+1, σ, y0 => kr_b_X12_label_125 N (f_X12_label_125 N n) (fun σ y0 => kr_f_X12_label_125 N n σ y0) σ y0
theorem kr_f_X12_label_110 (N : Nat) (σ : RS) (x5 : Int32) : KV σ (f_X12_label_110 N σ x5) := by
  unfold f_X12_label_110
  exact (kv_ite (kv_st ⟨rfl, rfl, rfl, rfl⟩ (kr_f_X12_label_125 N N (RS.setA σ 46 ((x5 : Int32).toNatClampNeg) (-3)) (x5 - 1))) kv_none)
theorem kr_f_X12_label_60 (N : Nat) (σ : RS) (x1 : Int32) (x2 : Int64) : KV σ (f_X12_label_60 N σ x1 x2) := by
  unfold f_X12_label_60
  exact (kv_bind (kr_st ⟨rfl, rfl, rfl, rfl⟩ (kr_f_X12_goal N σ 2 x2)) (fun p2 => (kv_ite (kv_bindv (kv_st ⟨rfl, rfl, rfl, rfl⟩ (kr_f_X12_next N (RS.setA p2.2 66 ((x1 : Int32).toNatClampNeg) p2.1))) (fun p5 => (kv_ite (kv_st ⟨rfl, rfl, rfl, rfl⟩ (kr_f_X12_label_110 N p5 p2.1)) (kv_ite (kv_st ⟨rfl, rfl, rfl, rfl⟩ (kr_f_X12_label_110 N p5 p2.1)) (kv_ite (kv_st ⟨rfl, rfl, rfl, rfl⟩ (kr_f_X12_label_110 N p5 p2.1)) (kv_ite (kv_ite (kv_st ⟨rfl, rfl, rfl, rfl⟩ (kr_f_X12_label_188 N (RS.setA p5 46 ((p2.1 : Int32).toNatClampNeg) (-2)))) kv_none) (kv_st ⟨rfl, rfl, rfl, rfl⟩ (kr_f_X12_label_188 N p5)))))))) kv_none)))
theorem kr_b_X12_label_8 (N : Nat) (K : RS → Int32 → Int64 → Int32 → Int32 → Option (RS)) (hK : ∀ (σ : RS) (y0 : Int32) (y1 : Int64) (y2 : Int32) (y3 : Int32), KV σ (K σ y0 y1 y2 y3)) (σ : RS) (x1 : Int32) (x2 : Int64) (x4 : Int32) (x5 : Int32) : KV σ (b_X12_label_8 N K σ x1 x2 x4 x5) := by
  unfold b_X12_label_8
  exact (kv_ite (kv_st ⟨rfl, rfl, rfl, rfl⟩ (kr_f_X12_label_60 N σ x1 x2)) (kv_ite (kv_ite (kv_st ⟨rfl, rfl, rfl, rfl⟩ (kr_f_X12_label_60 N σ x1 x2)) (kv_ite (kv_ite (kv_bindv (kv_st ⟨rfl, rfl, rfl, rfl⟩ (kr_f_X12_fail N σ 4 x4)) (fun p23 => (kv_st ⟨rfl, rfl, rfl, rfl⟩ (hK p23 x1 x2 x4 (x5 + (-1)))))) (kv_st ⟨rfl, rfl, rfl, rfl⟩ (hK σ x1 x2 x4 (x5 + (-1))))) (kv_st ⟨rfl, rfl, rfl, rfl⟩ (hK σ x1 x2 x4 (x5 + (-1)))))) kv_none))
theorem kr_f_X12_label_8 (N : Nat) : ∀ (n : Nat) (σ : RS) (y0 : Int32) (y1 : Int64) (y2 : Int32) (y3 : Int32), KV σ (f_X12_label_8 N n σ y0 y1 y2 y3)
  | 0, _, _, _, _, _ => kv_none
  | n+1, σ, y0, y1, y2, y3 => kr_b_X12_label_8 N (f_X12_label_8 N n) (fun σ y0 y1 y2 y3 => kr_f_X12_label_8 N n σ y0 y1 y2 y3) σ y0 y1 y2 y3
theorem kr_f_X12_label (N : Nat) (σ : RS) (x1 : Int32) (x2 : Int64) (x4 : Int32) : KV σ (f_X12_label N σ x1 x2 x4) := by
  unfold f_X12_label
  exact (kv_st ⟨rfl, rfl, rfl, rfl⟩ (kr_f_X12_label_8 N N σ x1 x2 x4 ((σ.i 43) - 1)))
theorem kr_f_X12_got_22 (N : Nat) (σ : RS) (x3 : Int32) : KR σ (f_X12_got_22 N σ x3) := by
  unfold f_X12_got_22
  exact (kr_bindv (kv_st ⟨rfl, rfl, rfl, rfl⟩ (kr_f_X12_fail N σ 3 x3)) (fun p4 => (kr_some ⟨rfl, rfl, rfl, rfl⟩)))
theorem kr_f_X12_got (N : Nat) (σ : RS) (x1 : Int64) (x3 : Int32) : KR σ (f_X12_got N σ x1 x3) := by
  unfold f_X12_got
  exact (kr_bind (kr_st ⟨rfl, rfl, rfl, rfl⟩ (kr_f_X12_seenAs N σ x1)) (fun p1 => (kr_ite (kr_st ⟨rfl, rfl, rfl, rfl⟩ (kr_f_X12_got_22 N p1.2 x3)) (kr_ite (kr_ite (kr_some ⟨rfl, rfl, rfl, rfl⟩) (kr_st ⟨rfl, rfl, rfl, rfl⟩ (kr_f_X12_got_22 N p1.2 x3))) kr_none))))
theorem kr_f_X12_named_207 (N : Nat) (σ : RS) (x1 : Int32) (x5 : Int32) (x6 : Int32) : KV σ (f_X12_named_207 N σ x1 x5 x6) := by
  unfold f_X12_named_207
  exact (kv_bindv (kv_st ⟨rfl, rfl, rfl, rfl⟩ (kr_f_X12_next N σ)) (fun p17 => (kv_ite (kv_ite (kv_bindv (kv_st ⟨rfl, rfl, rfl, rfl⟩ (kr_f_X12_then N (RS.setA p17 66 ((x1 : Int32).toNatClampNeg) x5) 2 16)) (fun p21 => (kv_some ⟨rfl, rfl, rfl, rfl⟩))) kv_none) (kv_bind (kr_st ⟨rfl, rfl, rfl, rfl⟩ (kr_f_X12_emit N p17 6 x5)) (fun p23 => (kv_bind (kr_st ⟨rfl, rfl, rfl, rfl⟩ (kr_f_X12_need N p23.2 59)) (fun p25 => (kv_bindv (kv_st ⟨rfl, rfl, rfl, rfl⟩ (kr_f_X12_over N p25.2 1)) (fun p27 => (kv_some ⟨rfl, rfl, rfl, rfl⟩))))))))))
theorem kr_f_X12_named_183 (N : Nat) (σ : RS) (x1 : Int32) (x5 : Int32) : KV σ (f_X12_named_183 N σ x1 x5) := by
  unfold f_X12_named_183
  exact (kv_bind (kr_st ⟨rfl, rfl, rfl, rfl⟩ (kr_f_X12_emit N σ 1 0)) (fun p14 => (kv_ite (kv_st ⟨rfl, rfl, rfl, rfl⟩ (kr_f_X12_named_207 N p14.2 x1 x5 1)) (kv_st ⟨rfl, rfl, rfl, rfl⟩ (kr_f_X12_named_207 N p14.2 x1 x5 0)))))
theorem kr_f_X12_named (N : Nat) (σ : RS) (x1 : Int32) : KV σ (f_X12_named N σ x1) := by
  unfold f_X12_named
  exact (kv_ite (kv_ite (kv_ite (kv_bindv (kv_st ⟨rfl, rfl, rfl, rfl⟩ (kr_f_X12_patch N σ (σ.a 48 (((σ.a 66 ((x1 : Int32).toNatClampNeg)) : Int32).toNatClampNeg)) (σ.i 20))) (fun p45 => (kv_ite (kv_ite (kv_bindv (kv_st ⟨rfl, rfl, rfl, rfl⟩ (kr_f_X12_over N (RS.setI p45 43 ((p45.i 43) - 1)) 0)) (fun p51 => (kv_some ⟨rfl, rfl, rfl, rfl⟩))) (kv_bindv (kv_st ⟨rfl, rfl, rfl, rfl⟩ (kr_f_X12_over N (RS.setI p45 43 ((p45.i 43) - 1)) 1)) (fun p53 => (kv_some ⟨rfl, rfl, rfl, rfl⟩)))) (kv_bindv (kv_st ⟨rfl, rfl, rfl, rfl⟩ (kr_f_X12_over N (RS.setI p45 43 ((p45.i 43) - 1)) 1)) (fun p48 => (kv_some ⟨rfl, rfl, rfl, rfl⟩)))))) kv_none) (kv_ite (kv_bind (kr_st ⟨rfl, rfl, rfl, rfl⟩ (kr_f_X12_emit N σ 5 (σ.a 66 ((x1 : Int32).toNatClampNeg)))) (fun p38 => (kv_bind (kr_st ⟨rfl, rfl, rfl, rfl⟩ (kr_f_X12_need N p38.2 59)) (fun p40 => (kv_bindv (kv_st ⟨rfl, rfl, rfl, rfl⟩ (kr_f_X12_over N p40.2 1)) (fun p42 => (kv_some ⟨rfl, rfl, rfl, rfl⟩))))))) (kv_bindv (kv_st ⟨rfl, rfl, rfl, rfl⟩ (kr_f_X12_next N σ)) (fun p4 => (kv_ite (kv_bindv (kv_st ⟨rfl, rfl, rfl, rfl⟩ (kr_f_X12_label N p4 x1 σ.l (σ.i 11))) (fun p36 => (kv_some ⟨rfl, rfl, rfl, rfl⟩))) (kv_bind (kr_st ⟨rfl, rfl, rfl, rfl⟩ (kr_f_X12_got N p4 σ.l (σ.i 11))) (fun p7 => (kv_ite (kv_ite (kv_bind (kr_st ⟨rfl, rfl, rfl, rfl⟩ (kr_f_X12_can N p7.2 1)) (fun p11 => (kv_ite (kv_some ⟨rfl, rfl, rfl, rfl⟩) (kv_st ⟨rfl, rfl, rfl, rfl⟩ (kr_f_X12_named_183 N p11.2 x1 p7.1))))) (kv_ite (kv_bind (kr_st ⟨rfl, rfl, rfl, rfl⟩ (kr_f_X12_can N p7.2 1)) (fun p33 => (kv_ite (kv_some ⟨rfl, rfl, rfl, rfl⟩) (kv_st ⟨rfl, rfl, rfl, rfl⟩ (kr_f_X12_named_183 N p33.2 x1 p7.1))))) (kv_bind (kr_st ⟨rfl, rfl, rfl, rfl⟩ (kr_f_X12_can N p7.2 0)) (fun p30 => (kv_ite (kv_some ⟨rfl, rfl, rfl, rfl⟩) (kv_st ⟨rfl, rfl, rfl, rfl⟩ (kr_f_X12_named_183 N p30.2 x1 p7.1))))))) (kv_some ⟨rfl, rfl, rfl, rfl⟩))))))))) kv_none)
theorem kr_b_X12_isInArms_2 (N : Nat) (K : RS → Int32 → Option (Int32 × RS)) (hK : ∀ (σ : RS) (y0 : Int32), KR σ (K σ y0)) (σ : RS) (x1 : Int32) : KR σ (b_X12_isInArms_2 N K σ x1) := by
  unfold b_X12_isInArms_2
  exact (kr_ite (kr_some ⟨rfl, rfl, rfl, rfl⟩) (kr_ite (kr_ite (kr_some ⟨rfl, rfl, rfl, rfl⟩) (kr_st ⟨rfl, rfl, rfl, rfl⟩ (hK σ (x1 + 1)))) kr_none))
theorem kr_f_X12_isInArms_2 (N : Nat) : ∀ (n : Nat) (σ : RS) (y0 : Int32), KR σ (f_X12_isInArms_2 N n σ y0)
  | 0, _, _ => kr_none
  | n+1, σ, y0 => kr_b_X12_isInArms_2 N (f_X12_isInArms_2 N n) (fun σ y0 => kr_f_X12_isInArms_2 N n σ y0) σ y0
theorem kr_f_X12_isInArms (N : Nat) (σ : RS) : KR σ (f_X12_isInArms N σ) := by
  unfold f_X12_isInArms
  exact (kr_st ⟨rfl, rfl, rfl, rfl⟩ (kr_f_X12_isInArms_2 N N σ 0))
theorem kr_b_X12_ending_119 (N : Nat) (K : RS → Int32 → Int32 → Int32 → Option (RS)) (hK : ∀ (σ : RS) (y0 : Int32) (y1 : Int32) (y2 : Int32), KV σ (K σ y0 y1 y2)) (σ : RS) (x1 : Int32) (x2 : Int32) (x3 : Int32) : KV σ (b_X12_ending_119 N K σ x1 x2 x3) := by
  unfold b_X12_ending_119
  exact (kv_ite (kv_bind (kr_st ⟨rfl, rfl, rfl, rfl⟩ (kr_f_X12_need N σ 59)) (fun p8 => (kv_ite (kv_ite (kv_bindv (kv_st ⟨rfl, rfl, rfl, rfl⟩ (kr_f_X12_over N p8.2 1)) (fun p14 => (kv_some ⟨rfl, rfl, rfl, rfl⟩))) (kv_bindv (kv_st ⟨rfl, rfl, rfl, rfl⟩ (kr_f_X12_over N p8.2 0)) (fun p12 => (kv_some ⟨rfl, rfl, rfl, rfl⟩)))) kv_none))) (kv_ite (kv_ite (kv_ite (kv_st ⟨rfl, rfl, rfl, rfl⟩ (hK (RS.setA σ 23 ((x2 : Int32).toNatClampNeg) (σ.a 47 ((x3 : Int32).toNatClampNeg))) x1 x2 (x3 + 1))) kv_none) (kv_ite (kv_st ⟨rfl, rfl, rfl, rfl⟩ (hK (RS.setA σ 23 ((x2 : Int32).toNatClampNeg) (σ.a 23 ((x2 : Int32).toNatClampNeg))) x1 x2 (x3 + 1))) kv_none)) kv_none))
theorem kr_f_X12_ending_119 (N : Nat) : ∀ (n : Nat) (σ : RS) (y0 : Int32) (y1 : Int32) (y2 : Int32), KV σ (f_X12_ending_119 N n σ y0 y1 y2)
  | 0, _, _, _, _ => kv_none
  | n+1, σ, y0, y1, y2 => kr_b_X12_ending_119 N (f_X12_ending_119 N n) (fun σ y0 y1 y2 => kr_f_X12_ending_119 N n σ y0 y1 y2) σ y0 y1 y2
theorem kr_f_X12_ending_117 (N : Nat) (σ : RS) (x1 : Int32) (x2 : Int32) : KV σ (f_X12_ending_117 N σ x1 x2) := by
  unfold f_X12_ending_117
  exact (kv_st ⟨rfl, rfl, rfl, rfl⟩ (kr_f_X12_ending_119 N N σ x1 x2 0))
theorem kr_f_X12_ending_63 (N : Nat) (σ : RS) : KV σ (f_X12_ending_63 N σ) := by
  unfold f_X12_ending_63
  exact (kv_bindv (kv_st ⟨rfl, rfl, rfl, rfl⟩ (kr_f_X12_next N σ)) (fun p26 => (kv_bindv (kv_st ⟨rfl, rfl, rfl, rfl⟩ (kr_f_X12_then N p26 1 16)) (fun p28 => (kv_some ⟨rfl, rfl, rfl, rfl⟩)))))
theorem kr_f_X12_ending_53 (N : Nat) (σ : RS) : KV σ (f_X12_ending_53 N σ) := by
  unfold f_X12_ending_53
  exact (kv_bindv (kv_st ⟨rfl, rfl, rfl, rfl⟩ (kr_f_X12_fail N σ 5 (σ.i 11))) (fun p33 => (kv_some ⟨rfl, rfl, rfl, rfl⟩)))
theorem kr_f_X12_ending_36 (N : Nat) (σ : RS) : KV σ (f_X12_ending_36 N σ) := by
  unfold f_X12_ending_36
  exact (kv_ite (kv_bind (kr_st ⟨rfl, rfl, rfl, rfl⟩ (kr_f_X12_isInArms N σ)) (fun p30 => (kv_ite (kv_st ⟨rfl, rfl, rfl, rfl⟩ (kr_f_X12_ending_53 N p30.2)) (kv_st ⟨rfl, rfl, rfl, rfl⟩ (kr_f_X12_ending_63 N p30.2))))) (kv_st ⟨rfl, rfl, rfl, rfl⟩ (kr_f_X12_ending_63 N σ)))
theorem kr_f_X12_ending (N : Nat) (σ : RS) (x1 : Int32) : KV σ (f_X12_ending N σ x1) := by
  unfold f_X12_ending
  exact (kv_ite (kv_ite (kv_ite (kv_bind (kr_st ⟨rfl, rfl, rfl, rfl⟩ (kr_f_X12_isInArms N (RS.setA σ 66 ((x1 : Int32).toNatClampNeg) (σ.i 10)))) (fun p35 => (kv_ite (kv_st ⟨rfl, rfl, rfl, rfl⟩ (kr_f_X12_ending_36 N p35.2)) (kv_st ⟨rfl, rfl, rfl, rfl⟩ (kr_f_X12_ending_53 N p35.2))))) (kv_st ⟨rfl, rfl, rfl, rfl⟩ (kr_f_X12_ending_36 N (RS.setA σ 66 ((x1 : Int32).toNatClampNeg) (σ.i 10))))) (kv_ite (kv_bind (kr_st ⟨rfl, rfl, rfl, rfl⟩ (kr_f_X12_emit N σ 16 0)) (fun p22 => (kv_st ⟨rfl, rfl, rfl, rfl⟩ (kr_f_X12_ending_117 N p22.2 x1 p22.1)))) (kv_ite (kv_bind (kr_st ⟨rfl, rfl, rfl, rfl⟩ (kr_f_X12_emit N σ 17 0)) (fun p20 => (kv_st ⟨rfl, rfl, rfl, rfl⟩ (kr_f_X12_ending_117 N p20.2 x1 p20.1)))) (kv_bind (kr_st ⟨rfl, rfl, rfl, rfl⟩ (kr_f_X12_emit N σ 18 0)) (fun p5 => (kv_st ⟨rfl, rfl, rfl, rfl⟩ (kr_f_X12_ending_117 N p5.2 x1 p5.1))))))) kv_none)
theorem kr_f_X12_throwing_142 (N : Nat) (σ : RS) : KV σ (f_X12_throwing_142 N σ) := by
  unfold f_X12_throwing_142
  exact (kv_bindv (kv_st ⟨rfl, rfl, rfl, rfl⟩ (kr_f_X12_fail N σ 3 (σ.i 11))) (fun p13 => (kv_some ⟨rfl, rfl, rfl, rfl⟩)))
theorem kr_f_X12_throwing_69 (N : Nat) (σ : RS) (x1 : Int32) : KV σ (f_X12_throwing_69 N σ x1) := by
  unfold f_X12_throwing_69
  exact (kv_ite (kv_ite (kv_ite (kv_bindv (kv_st ⟨rfl, rfl, rfl, rfl⟩ (kr_f_X12_next N (RS.setA σ 66 ((x1 : Int32).toNatClampNeg) (σ.i 14)))) (fun p27 => (kv_bindv (kv_st ⟨rfl, rfl, rfl, rfl⟩ (kr_f_X12_then N p27 1 16)) (fun p29 => (kv_some ⟨rfl, rfl, rfl, rfl⟩))))) kv_none) (kv_bindv (kv_st ⟨rfl, rfl, rfl, rfl⟩ (kr_f_X12_fail N σ 3 (σ.i 11))) (fun p31 => (kv_some ⟨rfl, rfl, rfl, rfl⟩)))) (kv_bind (kr_st ⟨rfl, rfl, rfl, rfl⟩ (kr_f_X12_seenAs N σ σ.l)) (fun p10 => (kv_ite (kv_st ⟨rfl, rfl, rfl, rfl⟩ (kr_f_X12_throwing_142 N p10.2)) (kv_ite (kv_ite (kv_st ⟨rfl, rfl, rfl, rfl⟩ (kr_f_X12_throwing_142 N p10.2)) (kv_bind (kr_st ⟨rfl, rfl, rfl, rfl⟩ (kr_f_X12_emit N p10.2 21 (p10.2.a 40 ((p10.1 : Int32).toNatClampNeg)))) (fun p17 => (kv_bindv (kv_st ⟨rfl, rfl, rfl, rfl⟩ (kr_f_X12_next N p17.2)) (fun p19 => (kv_bind (kr_st ⟨rfl, rfl, rfl, rfl⟩ (kr_f_X12_need N p19 59)) (fun p21 => (kv_bindv (kv_st ⟨rfl, rfl, rfl, rfl⟩ (kr_f_X12_over N p21.2 0)) (fun p23 => (kv_some ⟨rfl, rfl, rfl, rfl⟩)))))))))) kv_none)))))
theorem kr_f_X12_throwing (N : Nat) (σ : RS) (x1 : Int32) : KV σ (f_X12_throwing N σ x1) := by
  unfold f_X12_throwing
  exact (kv_ite (kv_ite (kv_bind (kr_st ⟨rfl, rfl, rfl, rfl⟩ (kr_f_X12_emit N σ 19 (σ.a 66 ((x1 : Int32).toNatClampNeg)))) (fun p40 => (kv_bind (kr_st ⟨rfl, rfl, rfl, rfl⟩ (kr_f_X12_need N p40.2 59)) (fun p42 => (kv_bindv (kv_st ⟨rfl, rfl, rfl, rfl⟩ (kr_f_X12_over N p42.2 0)) (fun p44 => (kv_some ⟨rfl, rfl, rfl, rfl⟩))))))) (kv_bindv (kv_st ⟨rfl, rfl, rfl, rfl⟩ (kr_f_X12_next N σ)) (fun p3 => (kv_ite (kv_bind (kr_st ⟨rfl, rfl, rfl, rfl⟩ (kr_f_X12_can N p3 1)) (fun p6 => (kv_ite (kv_some ⟨rfl, rfl, rfl, rfl⟩) (kv_st ⟨rfl, rfl, rfl, rfl⟩ (kr_f_X12_throwing_69 N p6.2 x1))))) (kv_ite (kv_bind (kr_st ⟨rfl, rfl, rfl, rfl⟩ (kr_f_X12_can N p3 1)) (fun p37 => (kv_ite (kv_some ⟨rfl, rfl, rfl, rfl⟩) (kv_st ⟨rfl, rfl, rfl, rfl⟩ (kr_f_X12_throwing_69 N p37.2 x1))))) (kv_bind (kr_st ⟨rfl, rfl, rfl, rfl⟩ (kr_f_X12_can N p3 0)) (fun p34 => (kv_ite (kv_some ⟨rfl, rfl, rfl, rfl⟩) (kv_st ⟨rfl, rfl, rfl, rfl⟩ (kr_f_X12_throwing_69 N p34.2 x1)))))))))) kv_none)
theorem kr_f_X12_asserted (N : Nat) (σ : RS) (x1 : Int32) : KV σ (f_X12_asserted N σ x1) := by
  unfold f_X12_asserted
  exact (kv_ite (kv_ite (kv_bindv (kv_st ⟨rfl, rfl, rfl, rfl⟩ (kr_f_X12_next N σ)) (fun p3 => (kv_bind (kr_st ⟨rfl, rfl, rfl, rfl⟩ (kr_f_X12_emit N p3 22 0)) (fun p5 => (kv_bindv (kv_st ⟨rfl, rfl, rfl, rfl⟩ (kr_f_X12_then N (RS.setA p5.2 66 ((x1 : Int32).toNatClampNeg) p5.1) 1 20)) (fun p7 => (kv_some ⟨rfl, rfl, rfl, rfl⟩))))))) (kv_ite (kv_bind (kr_st ⟨rfl, rfl, rfl, rfl⟩ (kr_f_X12_emit N σ 14 0)) (fun p10 => (kv_ite (kv_bindv (kv_st ⟨rfl, rfl, rfl, rfl⟩ (kr_f_X12_next N (RS.setA p10.2 67 ((x1 : Int32).toNatClampNeg) p10.1))) (fun p15 => (kv_bindv (kv_st ⟨rfl, rfl, rfl, rfl⟩ (kr_f_X12_then N p15 2 16)) (fun p17 => (kv_some ⟨rfl, rfl, rfl, rfl⟩))))) (kv_bind (kr_st ⟨rfl, rfl, rfl, rfl⟩ (kr_f_X12_emit N (RS.setA p10.2 67 ((x1 : Int32).toNatClampNeg) p10.1) 2 0)) (fun p13 => (kv_some ⟨rfl, rfl, rfl, rfl⟩)))))) (kv_bind (kr_st ⟨rfl, rfl, rfl, rfl⟩ (kr_f_X12_emit N σ 19 3)) (fun p19 => (kv_ite (kv_ite (kv_bind (kr_st ⟨rfl, rfl, rfl, rfl⟩ (kr_f_X12_need N (RS.setA (RS.setA p19.2 22 (((p19.2.a 66 ((x1 : Int32).toNatClampNeg)) : Int32).toNatClampNeg) (p19.2.i 20)) 22 (((p19.2.a 67 ((x1 : Int32).toNatClampNeg)) : Int32).toNatClampNeg) (p19.2.i 20)) 59)) (fun p23 => (kv_bindv (kv_st ⟨rfl, rfl, rfl, rfl⟩ (kr_f_X12_over N p23.2 1)) (fun p25 => (kv_some ⟨rfl, rfl, rfl, rfl⟩))))) kv_none) kv_none))))) kv_none)
theorem kr_f_X12_branch_113 (N : Nat) (σ : RS) (x1 : Int32) : KV σ (f_X12_branch_113 N σ x1) := by
  unfold f_X12_branch_113
  exact (kv_bind (kr_st ⟨rfl, rfl, rfl, rfl⟩ (kr_f_X12_emit N σ 15 0)) (fun p24 => (kv_ite (kv_ite (kv_bindv (kv_st ⟨rfl, rfl, rfl, rfl⟩ (kr_f_X12_body N (RS.setA (RS.setA p24.2 68 ((x1 : Int32).toNatClampNeg) p24.1) 22 (((p24.2.a 66 ((x1 : Int32).toNatClampNeg)) : Int32).toNatClampNeg) (p24.2.i 20)) 3)) (fun p28 => (kv_some ⟨rfl, rfl, rfl, rfl⟩))) kv_none) kv_none)))
theorem kr_f_X12_branch (N : Nat) (σ : RS) (x1 : Int32) : KV σ (f_X12_branch N σ x1) := by
  unfold f_X12_branch
  exact (kv_ite (kv_ite (kv_bindv (kv_st ⟨rfl, rfl, rfl, rfl⟩ (kr_f_X12_next N σ)) (fun p3 => (kv_bind (kr_st ⟨rfl, rfl, rfl, rfl⟩ (kr_f_X12_open N p3 40)) (fun p5 => (kv_bindv (kv_st ⟨rfl, rfl, rfl, rfl⟩ (kr_f_X12_then N p5.2 1 20)) (fun p7 => (kv_some ⟨rfl, rfl, rfl, rfl⟩))))))) (kv_ite (kv_bind (kr_st ⟨rfl, rfl, rfl, rfl⟩ (kr_f_X12_shut N σ 41)) (fun p10 => (kv_bind (kr_st ⟨rfl, rfl, rfl, rfl⟩ (kr_f_X12_emit N p10.2 13 0)) (fun p12 => (kv_bindv (kv_st ⟨rfl, rfl, rfl, rfl⟩ (kr_f_X12_body N (RS.setA p12.2 66 ((x1 : Int32).toNatClampNeg) p12.1) 2)) (fun p14 => (kv_some ⟨rfl, rfl, rfl, rfl⟩))))))) (kv_ite (kv_ite (kv_bindv (kv_st ⟨rfl, rfl, rfl, rfl⟩ (kr_f_X12_next N σ)) (fun p21 => (kv_ite (kv_st ⟨rfl, rfl, rfl, rfl⟩ (kr_f_X12_branch_113 N (RS.setA p21 67 ((x1 : Int32).toNatClampNeg) 0) x1)) (kv_st ⟨rfl, rfl, rfl, rfl⟩ (kr_f_X12_branch_113 N (RS.setA p21 67 ((x1 : Int32).toNatClampNeg) 1) x1))))) (kv_ite (kv_bindv (kv_st ⟨rfl, rfl, rfl, rfl⟩ (kr_f_X12_over N (RS.setA σ 22 (((σ.a 66 ((x1 : Int32).toNatClampNeg)) : Int32).toNatClampNeg) (σ.i 20)) 1)) (fun p19 => (kv_some ⟨rfl, rfl, rfl, rfl⟩))) kv_none)) (kv_ite (kv_ite (kv_ite (kv_bindv (kv_st ⟨rfl, rfl, rfl, rfl⟩ (kr_f_X12_over N (RS.setA σ 22 (((σ.a 68 ((x1 : Int32).toNatClampNeg)) : Int32).toNatClampNeg) (σ.i 20)) 1)) (fun p37 => (kv_some ⟨rfl, rfl, rfl, rfl⟩))) (kv_bindv (kv_st ⟨rfl, rfl, rfl, rfl⟩ (kr_f_X12_over N (RS.setA σ 22 (((σ.a 68 ((x1 : Int32).toNatClampNeg)) : Int32).toNatClampNeg) (σ.i 20)) 0)) (fun p35 => (kv_some ⟨rfl, rfl, rfl, rfl⟩)))) (kv_bindv (kv_st ⟨rfl, rfl, rfl, rfl⟩ (kr_f_X12_over N (RS.setA σ 22 (((σ.a 68 ((x1 : Int32).toNatClampNeg)) : Int32).toNatClampNeg) (σ.i 20)) 1)) (fun p32 => (kv_some ⟨rfl, rfl, rfl, rfl⟩)))) kv_none)))) kv_none)
theorem kr_f_X12_isJustTrue_18 (N : Nat) (σ : RS) : KR σ (f_X12_isJustTrue_18 N σ) := by
  unfold f_X12_isJustTrue_18
  exact (kr_some ⟨rfl, rfl, rfl, rfl⟩)
theorem kr_f_X12_isJustTrue (N : Nat) (σ : RS) (x1 : Int32) : KR σ (f_X12_isJustTrue N σ x1) := by
  unfold f_X12_isJustTrue
  exact (kr_ite (kr_st ⟨rfl, rfl, rfl, rfl⟩ (kr_f_X12_isJustTrue_18 N σ)) (kr_ite (kr_some ⟨rfl, rfl, rfl, rfl⟩) (kr_st ⟨rfl, rfl, rfl, rfl⟩ (kr_f_X12_isJustTrue_18 N σ))))
theorem kr_f_X12_whiles_77 (N : Nat) (σ : RS) : KV σ (f_X12_whiles_77 N σ) := by
  unfold f_X12_whiles_77
  exact (kv_bindv (kv_st ⟨rfl, rfl, rfl, rfl⟩ (kr_f_X12_then N σ 1 20)) (fun p8 => (kv_some ⟨rfl, rfl, rfl, rfl⟩)))
theorem kr_f_X12_whiles_111 (N : Nat) (σ : RS) (x1 : Int32) : KV σ (f_X12_whiles_111 N σ x1) := by
  unfold f_X12_whiles_111
  exact (kv_bind (kr_st ⟨rfl, rfl, rfl, rfl⟩ (kr_f_X12_shut N σ 41)) (fun p14 => (kv_bind (kr_st ⟨rfl, rfl, rfl, rfl⟩ (kr_f_X12_emit N p14.2 13 0)) (fun p16 => (kv_ite (kv_bind (kr_st ⟨rfl, rfl, rfl, rfl⟩ (kr_f_X12_emit N (RS.setA p16.2 67 ((x1 : Int32).toNatClampNeg) p16.1) 1 0)) (fun p19 => (kv_bind (kr_st ⟨rfl, rfl, rfl, rfl⟩ (kr_f_X12_loopGoal N p19.2)) (fun p21 => (kv_bindv (kv_st ⟨rfl, rfl, rfl, rfl⟩ (kr_f_X12_body N (RS.setA p21.2 68 ((x1 : Int32).toNatClampNeg) p21.1) 2)) (fun p23 => (kv_some ⟨rfl, rfl, rfl, rfl⟩))))))) kv_none)))))
theorem kr_f_X12_whiles (N : Nat) (σ : RS) (x1 : Int32) : KV σ (f_X12_whiles N σ x1) := by
  unfold f_X12_whiles
  exact (kv_ite (kv_ite (kv_bindv (kv_st ⟨rfl, rfl, rfl, rfl⟩ (kr_f_X12_next N σ)) (fun p3 => (kv_bind (kr_st ⟨rfl, rfl, rfl, rfl⟩ (kr_f_X12_open N (RS.setA p3 66 ((x1 : Int32).toNatClampNeg) (p3.i 20)) 40)) (fun p5 => (kv_ite (kv_st ⟨rfl, rfl, rfl, rfl⟩ (kr_f_X12_whiles_77 N (RS.setA p5.2 69 ((x1 : Int32).toNatClampNeg) (p5.2.i 17)))) (kv_st ⟨rfl, rfl, rfl, rfl⟩ (kr_f_X12_whiles_77 N (RS.setA p5.2 69 ((x1 : Int32).toNatClampNeg) 0)))))))) (kv_ite (kv_bind (kr_st ⟨rfl, rfl, rfl, rfl⟩ (kr_f_X12_isJustTrue N σ (σ.a 69 ((x1 : Int32).toNatClampNeg)))) (fun p11 => (kv_ite (kv_st ⟨rfl, rfl, rfl, rfl⟩ (kr_f_X12_whiles_111 N (RS.setA p11.2 71 ((x1 : Int32).toNatClampNeg) 0) x1)) (kv_st ⟨rfl, rfl, rfl, rfl⟩ (kr_f_X12_whiles_111 N (RS.setA p11.2 71 ((x1 : Int32).toNatClampNeg) 1) x1))))) (kv_ite (kv_bindv (kv_st ⟨rfl, rfl, rfl, rfl⟩ (kr_f_X12_patch N σ (σ.a 49 (((σ.a 68 ((x1 : Int32).toNatClampNeg)) : Int32).toNatClampNeg)) (σ.a 66 ((x1 : Int32).toNatClampNeg)))) (fun p26 => (kv_bind (kr_st ⟨rfl, rfl, rfl, rfl⟩ (kr_f_X12_emit N p26 15 (p26.a 66 ((x1 : Int32).toNatClampNeg)))) (fun p28 => (kv_ite (kv_bindv (kv_st ⟨rfl, rfl, rfl, rfl⟩ (kr_f_X12_patch N (RS.setA p28.2 22 (((p28.2.a 67 ((x1 : Int32).toNatClampNeg)) : Int32).toNatClampNeg) (p28.2.i 20)) (p28.2.a 48 (((σ.a 68 ((x1 : Int32).toNatClampNeg)) : Int32).toNatClampNeg)) (p28.2.i 20))) (fun p31 => (kv_ite (kv_bindv (kv_st ⟨rfl, rfl, rfl, rfl⟩ (kr_f_X12_over N (RS.setI p31 43 ((p31.i 43) - 1)) 1)) (fun p34 => (kv_some ⟨rfl, rfl, rfl, rfl⟩))) (kv_ite (kv_bindv (kv_st ⟨rfl, rfl, rfl, rfl⟩ (kr_f_X12_over N (RS.setI p31 43 ((p31.i 43) - 1)) 0)) (fun p37 => (kv_some ⟨rfl, rfl, rfl, rfl⟩))) (kv_bindv (kv_st ⟨rfl, rfl, rfl, rfl⟩ (kr_f_X12_over N (RS.setI p31 43 ((p31.i 43) - 1)) 1)) (fun p39 => (kv_some ⟨rfl, rfl, rfl, rfl⟩))))))) kv_none))))) kv_none))) kv_none)
theorem kr_f_X12_repeats_195 (N : Nat) (σ : RS) : KV σ (f_X12_repeats_195 N σ) := by
  unfold f_X12_repeats_195
  exact (kv_bindv (kv_st ⟨rfl, rfl, rfl, rfl⟩ (kr_f_X12_then N σ 2 20)) (fun p26 => (kv_some ⟨rfl, rfl, rfl, rfl⟩)))
theorem kr_f_X12_repeats_134 (N : Nat) (σ : RS) (x1 : Int32) (x2 : Int32) : KV σ (f_X12_repeats_134 N σ x1 x2) := by
  unfold f_X12_repeats_134
  exact (kv_ite (kv_ite (kv_bind (kr_st ⟨rfl, rfl, rfl, rfl⟩ (kr_f_X12_need N (RS.setI (RS.setA σ 70 ((x1 : Int32).toNatClampNeg) (σ.a 48 ((x2 : Int32).toNatClampNeg))) 43 ((σ.i 43) - 1)) 415)) (fun p21 => (kv_bind (kr_st ⟨rfl, rfl, rfl, rfl⟩ (kr_f_X12_open N p21.2 40)) (fun p23 => (kv_ite (kv_st ⟨rfl, rfl, rfl, rfl⟩ (kr_f_X12_repeats_195 N (RS.setA p23.2 69 ((x1 : Int32).toNatClampNeg) (p23.2.i 17)))) (kv_st ⟨rfl, rfl, rfl, rfl⟩ (kr_f_X12_repeats_195 N (RS.setA p23.2 69 ((x1 : Int32).toNatClampNeg) 0)))))))) kv_none) kv_none)
theorem kr_f_X12_repeats_114 (N : Nat) (σ : RS) (x1 : Int32) (x2 : Int32) : KV σ (f_X12_repeats_114 N σ x1 x2) := by
  unfold f_X12_repeats_114
  exact (kv_ite (kv_ite (kv_ite (kv_st ⟨rfl, rfl, rfl, rfl⟩ (kr_f_X12_repeats_134 N (RS.setA σ 72 ((x1 : Int32).toNatClampNeg) 0) x1 x2)) kv_none) (kv_ite (kv_st ⟨rfl, rfl, rfl, rfl⟩ (kr_f_X12_repeats_134 N (RS.setA σ 72 ((x1 : Int32).toNatClampNeg) 1) x1 x2)) kv_none)) kv_none)
theorem kr_f_X12_repeats (N : Nat) (σ : RS) (x1 : Int32) : KV σ (f_X12_repeats N σ x1) := by
  unfold f_X12_repeats
  exact (kv_ite (kv_ite (kv_bindv (kv_st ⟨rfl, rfl, rfl, rfl⟩ (kr_f_X12_next N σ)) (fun p3 => (kv_bind (kr_st ⟨rfl, rfl, rfl, rfl⟩ (kr_f_X12_emit N p3 1 0)) (fun p5 => (kv_bind (kr_st ⟨rfl, rfl, rfl, rfl⟩ (kr_f_X12_loopGoal N (RS.setA p5.2 66 ((x1 : Int32).toNatClampNeg) p5.1))) (fun p7 => (kv_bindv (kv_st ⟨rfl, rfl, rfl, rfl⟩ (kr_f_X12_body N (RS.setA p7.2 68 ((x1 : Int32).toNatClampNeg) p7.1) 1)) (fun p9 => (kv_some ⟨rfl, rfl, rfl, rfl⟩))))))))) (kv_ite (kv_ite (kv_bindv (kv_st ⟨rfl, rfl, rfl, rfl⟩ (kr_f_X12_patch N σ (σ.a 49 (((σ.a 68 ((x1 : Int32).toNatClampNeg)) : Int32).toNatClampNeg)) (σ.i 20))) (fun p13 => (kv_ite (kv_ite (kv_st ⟨rfl, rfl, rfl, rfl⟩ (kr_f_X12_repeats_114 N (RS.setA p13 67 ((x1 : Int32).toNatClampNeg) 0) x1 (σ.a 68 ((x1 : Int32).toNatClampNeg)))) (kv_st ⟨rfl, rfl, rfl, rfl⟩ (kr_f_X12_repeats_114 N (RS.setA p13 67 ((x1 : Int32).toNatClampNeg) 1) x1 (σ.a 68 ((x1 : Int32).toNatClampNeg))))) (kv_st ⟨rfl, rfl, rfl, rfl⟩ (kr_f_X12_repeats_114 N (RS.setA p13 67 ((x1 : Int32).toNatClampNeg) 1) x1 (σ.a 68 ((x1 : Int32).toNatClampNeg))))))) kv_none) (kv_bind (kr_st ⟨rfl, rfl, rfl, rfl⟩ (kr_f_X12_isJustTrue N σ (σ.a 69 ((x1 : Int32).toNatClampNeg)))) (fun p30 => (kv_bind (kr_st ⟨rfl, rfl, rfl, rfl⟩ (kr_f_X12_shut N p30.2 41)) (fun p32 => (kv_bind (kr_st ⟨rfl, rfl, rfl, rfl⟩ (kr_f_X12_need N p32.2 59)) (fun p34 => (kv_bind (kr_st ⟨rfl, rfl, rfl, rfl⟩ (kr_f_X12_emit N p34.2 14 (p34.2.a 66 ((x1 : Int32).toNatClampNeg)))) (fun p36 => (kv_bindv (kv_st ⟨rfl, rfl, rfl, rfl⟩ (kr_f_X12_patch N p36.2 (p36.2.a 70 ((x1 : Int32).toNatClampNeg)) (p36.2.i 20))) (fun p38 => (kv_ite (kv_ite (kv_bindv (kv_st ⟨rfl, rfl, rfl, rfl⟩ (kr_f_X12_over N p38 1)) (fun p47 => (kv_some ⟨rfl, rfl, rfl, rfl⟩))) (kv_ite (kv_bindv (kv_st ⟨rfl, rfl, rfl, rfl⟩ (kr_f_X12_over N p38 1)) (fun p52 => (kv_some ⟨rfl, rfl, rfl, rfl⟩))) (kv_bindv (kv_st ⟨rfl, rfl, rfl, rfl⟩ (kr_f_X12_over N p38 0)) (fun p50 => (kv_some ⟨rfl, rfl, rfl, rfl⟩))))) (kv_ite (kv_bindv (kv_st ⟨rfl, rfl, rfl, rfl⟩ (kr_f_X12_over N p38 1)) (fun p44 => (kv_some ⟨rfl, rfl, rfl, rfl⟩))) (kv_bindv (kv_st ⟨rfl, rfl, rfl, rfl⟩ (kr_f_X12_over N p38 0)) (fun p42 => (kv_some ⟨rfl, rfl, rfl, rfl⟩))))))))))))))))) kv_none)
theorem kr_f_X12_forHead_231 (N : Nat) (σ : RS) (x1 : Int32) : KV σ (f_X12_forHead_231 N σ x1) := by
  unfold f_X12_forHead_231
  exact (kv_ite (kv_some ⟨rfl, rfl, rfl, rfl⟩) kv_none)
theorem kr_f_X12_forHead_196 (N : Nat) (σ : RS) : KV σ (f_X12_forHead_196 N σ) := by
  unfold f_X12_forHead_196
  exact (kv_bindv (kv_st ⟨rfl, rfl, rfl, rfl⟩ (kr_f_X12_next N σ)) (fun p21 => (kv_bindv (kv_st ⟨rfl, rfl, rfl, rfl⟩ (kr_f_X12_then N p21 2 16)) (fun p23 => (kv_some ⟨rfl, rfl, rfl, rfl⟩)))))
theorem kr_f_X12_forHead_142 (N : Nat) (σ : RS) : KV σ (f_X12_forHead_142 N σ) := by
  unfold f_X12_forHead_142
  exact (kv_some ⟨rfl, rfl, rfl, rfl⟩)
theorem kr_f_X12_forHead_76 (N : Nat) (σ : RS) (x1 : Int32) (x2 : Int32) : KV σ (f_X12_forHead_76 N σ x1 x2) := by
  unfold f_X12_forHead_76
  exact (kv_bindv (kv_st ⟨rfl, rfl, rfl, rfl⟩ (kr_f_X12_next N σ)) (fun p38 => (kv_ite (kv_bindv (kv_st ⟨rfl, rfl, rfl, rfl⟩ (kr_f_X12_then N p38 1 16)) (fun p50 => (kv_st ⟨rfl, rfl, rfl, rfl⟩ (kr_f_X12_forHead_142 N p50)))) (kv_ite (kv_bindv (kv_st ⟨rfl, rfl, rfl, rfl⟩ (kr_f_X12_next N p38)) (fun p45 => (kv_bind (kr_st ⟨rfl, rfl, rfl, rfl⟩ (kr_f_X12_emit N p45 20 1)) (fun p47 => (kv_ite (kv_st ⟨rfl, rfl, rfl, rfl⟩ (kr_f_X12_forHead_142 N (RS.setA p47.2 65 ((x1 : Int32).toNatClampNeg) 12))) kv_none))))) (kv_ite (kv_bindv (kv_st ⟨rfl, rfl, rfl, rfl⟩ (kr_f_X12_then N (RS.setA p38 68 ((x1 : Int32).toNatClampNeg) 0) 10 16)) (fun p43 => (kv_st ⟨rfl, rfl, rfl, rfl⟩ (kr_f_X12_forHead_142 N p43)))) kv_none)))))
theorem kr_f_X12_forHead_61 (N : Nat) (σ : RS) (x1 : Int32) : KV σ (f_X12_forHead_61 N σ x1) := by
  unfold f_X12_forHead_61
  exact (kv_ite (kv_st ⟨rfl, rfl, rfl, rfl⟩ (kr_f_X12_forHead_76 N σ x1 1)) (kv_st ⟨rfl, rfl, rfl, rfl⟩ (kr_f_X12_forHead_76 N σ x1 0)))
theorem kr_f_X12_forHead (N : Nat) (σ : RS) (x1 : Int32) : KV σ (f_X12_forHead N σ x1) := by
  unfold f_X12_forHead
  exact (kv_ite (kv_ite (kv_bindv (kv_st ⟨rfl, rfl, rfl, rfl⟩ (kr_f_X12_next N σ)) (fun p28 => (kv_bind (kr_st ⟨rfl, rfl, rfl, rfl⟩ (kr_f_X12_telling N p28 x1)) (fun p30 => (kv_ite (kv_some ⟨rfl, rfl, rfl, rfl⟩) (kv_ite (kv_bind (kr_st ⟨rfl, rfl, rfl, rfl⟩ (kr_f_X12_can N p30.2 1)) (fun p34 => (kv_ite (kv_some ⟨rfl, rfl, rfl, rfl⟩) (kv_st ⟨rfl, rfl, rfl, rfl⟩ (kr_f_X12_forHead_61 N p34.2 x1))))) (kv_ite (kv_bind (kr_st ⟨rfl, rfl, rfl, rfl⟩ (kr_f_X12_can N p30.2 1)) (fun p56 => (kv_ite (kv_some ⟨rfl, rfl, rfl, rfl⟩) (kv_st ⟨rfl, rfl, rfl, rfl⟩ (kr_f_X12_forHead_61 N p56.2 x1))))) (kv_bind (kr_st ⟨rfl, rfl, rfl, rfl⟩ (kr_f_X12_can N p30.2 0)) (fun p53 => (kv_ite (kv_some ⟨rfl, rfl, rfl, rfl⟩) (kv_st ⟨rfl, rfl, rfl, rfl⟩ (kr_f_X12_forHead_61 N p53.2 x1)))))))))))) (kv_ite (kv_bind (kr_st ⟨rfl, rfl, rfl, rfl⟩ (kr_f_X12_got N σ σ.l (σ.i 11))) (fun p12 => (kv_ite (kv_bindv (kv_st ⟨rfl, rfl, rfl, rfl⟩ (kr_f_X12_next N (RS.setA p12.2 66 ((x1 : Int32).toNatClampNeg) p12.1))) (fun p15 => (kv_ite (kv_bind (kr_st ⟨rfl, rfl, rfl, rfl⟩ (kr_f_X12_can N p15 1)) (fun p25 => (kv_ite (kv_some ⟨rfl, rfl, rfl, rfl⟩) (kv_st ⟨rfl, rfl, rfl, rfl⟩ (kr_f_X12_forHead_196 N p25.2))))) (kv_bind (kr_st ⟨rfl, rfl, rfl, rfl⟩ (kr_f_X12_can N p15 0)) (fun p18 => (kv_ite (kv_some ⟨rfl, rfl, rfl, rfl⟩) (kv_st ⟨rfl, rfl, rfl, rfl⟩ (kr_f_X12_forHead_196 N p18.2)))))))) kv_none))) (kv_ite (kv_bind (kr_st ⟨rfl, rfl, rfl, rfl⟩ (kr_f_X12_can N σ 1)) (fun p9 => (kv_ite (kv_some ⟨rfl, rfl, rfl, rfl⟩) (kv_st ⟨rfl, rfl, rfl, rfl⟩ (kr_f_X12_forHead_231 N p9.2 x1))))) (kv_bind (kr_st ⟨rfl, rfl, rfl, rfl⟩ (kr_f_X12_can N σ 0)) (fun p5 => (kv_ite (kv_some ⟨rfl, rfl, rfl, rfl⟩) (kv_st ⟨rfl, rfl, rfl, rfl⟩ (kr_f_X12_forHead_231 N p5.2 x1)))))))) (kv_some ⟨rfl, rfl, rfl, rfl⟩))
theorem kr_f_X12_forBehind_59 (N : Nat) (σ : RS) (x1 : Int32) : KV σ (f_X12_forBehind_59 N σ x1) := by
  unfold f_X12_forBehind_59
  exact (kv_ite (kv_some ⟨rfl, rfl, rfl, rfl⟩) kv_none)
theorem kr_f_X12_forBehind_159 (N : Nat) (σ : RS) (x1 : Int32) (x2 : Int32) : KV σ (f_X12_forBehind_159 N σ x1 x2) := by
  unfold f_X12_forBehind_159
  exact (kv_bindv (kv_st ⟨rfl, rfl, rfl, rfl⟩ (kr_f_X12_next N σ)) (fun p25 => (kv_ite (kv_bindv (kv_st ⟨rfl, rfl, rfl, rfl⟩ (kr_f_X12_then N p25 6 16)) (fun p28 => (kv_some ⟨rfl, rfl, rfl, rfl⟩))) (kv_ite (kv_bind (kr_st ⟨rfl, rfl, rfl, rfl⟩ (kr_f_X12_emit N p25 6 (p25.a 73 ((x1 : Int32).toNatClampNeg)))) (fun p31 => (kv_some ⟨rfl, rfl, rfl, rfl⟩))) kv_none))))
theorem kr_f_X12_forBehind_143 (N : Nat) (σ : RS) (x1 : Int32) : KV σ (f_X12_forBehind_143 N σ x1) := by
  unfold f_X12_forBehind_143
  exact (kv_ite (kv_st ⟨rfl, rfl, rfl, rfl⟩ (kr_f_X12_forBehind_159 N σ x1 1)) (kv_st ⟨rfl, rfl, rfl, rfl⟩ (kr_f_X12_forBehind_159 N σ x1 0)))
theorem kr_f_X12_forBehind_89 (N : Nat) (σ : RS) (x1 : Int32) : KV σ (f_X12_forBehind_89 N σ x1) := by
  unfold f_X12_forBehind_89
  exact (kv_bind (kr_st ⟨rfl, rfl, rfl, rfl⟩ (kr_f_X12_got N σ σ.l (σ.i 11))) (fun p15 => (kv_ite (kv_bindv (kv_st ⟨rfl, rfl, rfl, rfl⟩ (kr_f_X12_next N (RS.setA p15.2 73 ((x1 : Int32).toNatClampNeg) p15.1))) (fun p18 => (kv_ite (kv_bind (kr_st ⟨rfl, rfl, rfl, rfl⟩ (kr_f_X12_can N p18 1)) (fun p21 => (kv_ite (kv_some ⟨rfl, rfl, rfl, rfl⟩) (kv_st ⟨rfl, rfl, rfl, rfl⟩ (kr_f_X12_forBehind_143 N p21.2 x1))))) (kv_ite (kv_bind (kr_st ⟨rfl, rfl, rfl, rfl⟩ (kr_f_X12_can N p18 1)) (fun p37 => (kv_ite (kv_some ⟨rfl, rfl, rfl, rfl⟩) (kv_st ⟨rfl, rfl, rfl, rfl⟩ (kr_f_X12_forBehind_143 N p37.2 x1))))) (kv_bind (kr_st ⟨rfl, rfl, rfl, rfl⟩ (kr_f_X12_can N p18 0)) (fun p34 => (kv_ite (kv_some ⟨rfl, rfl, rfl, rfl⟩) (kv_st ⟨rfl, rfl, rfl, rfl⟩ (kr_f_X12_forBehind_143 N p34.2 x1))))))))) kv_none)))
theorem kr_f_X12_forBehind (N : Nat) (σ : RS) (x1 : Int32) : KV σ (f_X12_forBehind N σ x1) := by
  unfold f_X12_forBehind
  exact (kv_bind (kr_st ⟨rfl, rfl, rfl, rfl⟩ (kr_f_X12_need N σ 59)) (fun p1 => (kv_bind (kr_st ⟨rfl, rfl, rfl, rfl⟩ (kr_f_X12_emit N p1.2 13 0)) (fun p3 => (kv_ite (kv_bind (kr_st ⟨rfl, rfl, rfl, rfl⟩ (kr_f_X12_emit N (RS.setA p3.2 67 ((x1 : Int32).toNatClampNeg) p3.1) 15 0)) (fun p6 => (kv_ite (kv_ite (kv_st ⟨rfl, rfl, rfl, rfl⟩ (kr_f_X12_forBehind_59 N (RS.setA (RS.setA p6.2 68 ((x1 : Int32).toNatClampNeg) p6.1) 70 ((x1 : Int32).toNatClampNeg) (p6.2.i 20)) x1)) (kv_ite (kv_bind (kr_st ⟨rfl, rfl, rfl, rfl⟩ (kr_f_X12_can N (RS.setA (RS.setA p6.2 68 ((x1 : Int32).toNatClampNeg) p6.1) 70 ((x1 : Int32).toNatClampNeg) (p6.2.i 20)) 1)) (fun p40 => (kv_ite (kv_some ⟨rfl, rfl, rfl, rfl⟩) (kv_st ⟨rfl, rfl, rfl, rfl⟩ (kr_f_X12_forBehind_89 N p40.2 x1))))) (kv_bind (kr_st ⟨rfl, rfl, rfl, rfl⟩ (kr_f_X12_can N (RS.setA (RS.setA p6.2 68 ((x1 : Int32).toNatClampNeg) p6.1) 70 ((x1 : Int32).toNatClampNeg) (p6.2.i 20)) 0)) (fun p12 => (kv_ite (kv_some ⟨rfl, rfl, rfl, rfl⟩) (kv_st ⟨rfl, rfl, rfl, rfl⟩ (kr_f_X12_forBehind_89 N p12.2 x1))))))) (kv_st ⟨rfl, rfl, rfl, rfl⟩ (kr_f_X12_forBehind_59 N (RS.setA (RS.setA p6.2 68 ((x1 : Int32).toNatClampNeg) p6.1) 70 ((x1 : Int32).toNatClampNeg) (p6.2.i 20)) x1))))) kv_none)))))
theorem kr_f_X12_rows (N : Nat) (σ : RS) (x1 : Int32) : KV σ (f_X12_rows N σ x1) := by
  unfold f_X12_rows
  exact (kv_ite (kv_ite (kv_ite (kv_bindv (kv_st ⟨rfl, rfl, rfl, rfl⟩ (kr_f_X12_next N (RS.setA σ 68 ((x1 : Int32).toNatClampNeg) ((σ.a 68 ((x1 : Int32).toNatClampNeg)) + 1)))) (fun p30 => (kv_bindv (kv_st ⟨rfl, rfl, rfl, rfl⟩ (kr_f_X12_then N p30 10 16)) (fun p32 => (kv_some ⟨rfl, rfl, rfl, rfl⟩))))) (kv_bind (kr_st ⟨rfl, rfl, rfl, rfl⟩ (kr_f_X12_emit N (RS.setA σ 68 ((x1 : Int32).toNatClampNeg) ((σ.a 68 ((x1 : Int32).toNatClampNeg)) + 1)) 23 ((upd (σ.a 68) ((x1 : Int32).toNatClampNeg) ((σ.a 68 ((x1 : Int32).toNatClampNeg)) + 1)) ((x1 : Int32).toNatClampNeg)))) (fun p28 => (kv_some ⟨rfl, rfl, rfl, rfl⟩)))) (kv_ite (kv_bind (kr_st ⟨rfl, rfl, rfl, rfl⟩ (kr_f_X12_see N σ (σ.b 74 ((x1 : Int32).toNatClampNeg)) 0)) (fun p16 => (kv_bind (kr_st ⟨rfl, rfl, rfl, rfl⟩ (kr_f_X12_shut N p16.2 41)) (fun p18 => (kv_bind (kr_st ⟨rfl, rfl, rfl, rfl⟩ (kr_f_X12_emit N (RS.setI p18.2 52 ((p18.2.i 52) + 1)) 24 0)) (fun p20 => (kv_ite (kv_bind (kr_st ⟨rfl, rfl, rfl, rfl⟩ (kr_f_X12_loopGoal N (RS.setA (RS.setA p20.2 66 ((x1 : Int32).toNatClampNeg) p20.1) 23 ((((upd (p20.2.a 66) ((x1 : Int32).toNatClampNeg) p20.1) ((x1 : Int32).toNatClampNeg)) : Int32).toNatClampNeg) p16.1))) (fun p23 => (kv_bindv (kv_st ⟨rfl, rfl, rfl, rfl⟩ (kr_f_X12_body N (RS.setA p23.2 73 ((x1 : Int32).toNatClampNeg) p23.1) 13)) (fun p25 => (kv_some ⟨rfl, rfl, rfl, rfl⟩))))) kv_none))))))) (kv_ite (kv_bindv (kv_st ⟨rfl, rfl, rfl, rfl⟩ (kr_f_X12_patch N σ (σ.a 49 (((σ.a 73 ((x1 : Int32).toNatClampNeg)) : Int32).toNatClampNeg)) (σ.a 66 ((x1 : Int32).toNatClampNeg)))) (fun p5 => (kv_bind (kr_st ⟨rfl, rfl, rfl, rfl⟩ (kr_f_X12_emit N p5 15 (p5.a 66 ((x1 : Int32).toNatClampNeg)))) (fun p7 => (kv_ite (kv_bindv (kv_st ⟨rfl, rfl, rfl, rfl⟩ (kr_f_X12_patch N (RS.setA p7.2 22 (((p7.2.a 66 ((x1 : Int32).toNatClampNeg)) : Int32).toNatClampNeg) (p7.2.i 20)) (p7.2.a 48 (((σ.a 73 ((x1 : Int32).toNatClampNeg)) : Int32).toNatClampNeg)) (p7.2.i 20))) (fun p10 => (kv_bind (kr_st ⟨rfl, rfl, rfl, rfl⟩ (kr_f_X12_emit N p10 25 0)) (fun p12 => (kv_bindv (kv_st ⟨rfl, rfl, rfl, rfl⟩ (kr_f_X12_over N (RS.setI (RS.setI (RS.setI p12.2 52 ((p12.2.i 52) - 1)) 43 ((p12.2.i 43) - 1)) 38 (p12.2.a 71 ((x1 : Int32).toNatClampNeg))) 1)) (fun p14 => (kv_some ⟨rfl, rfl, rfl, rfl⟩))))))) kv_none))))) kv_none))) kv_none)
theorem kr_f_X12_fors_195 (N : Nat) (σ : RS) (x1 : Int32) : KV σ (f_X12_fors_195 N σ x1) := by
  unfold f_X12_fors_195
  exact (kv_ite (kv_bind (kr_st ⟨rfl, rfl, rfl, rfl⟩ (kr_f_X12_emit N σ 2 1)) (fun p26 => (kv_ite (kv_some ⟨rfl, rfl, rfl, rfl⟩) kv_none))) (kv_bindv (kv_st ⟨rfl, rfl, rfl, rfl⟩ (kr_f_X12_then N σ 4 20)) (fun p24 => (kv_some ⟨rfl, rfl, rfl, rfl⟩))))
theorem kr_f_X12_fors_175 (N : Nat) (σ : RS) (x1 : Int32) : KV σ (f_X12_fors_175 N σ x1) := by
  unfold f_X12_fors_175
  exact (kv_ite (kv_ite (kv_st ⟨rfl, rfl, rfl, rfl⟩ (kr_f_X12_fors_195 N (RS.setA σ 72 ((x1 : Int32).toNatClampNeg) 1) x1)) kv_none) (kv_ite (kv_st ⟨rfl, rfl, rfl, rfl⟩ (kr_f_X12_fors_195 N (RS.setA σ 72 ((x1 : Int32).toNatClampNeg) 0) x1)) kv_none))
theorem kr_f_X12_fors_255 (N : Nat) (σ : RS) (x1 : Int32) : KV σ (f_X12_fors_255 N σ x1) := by
  unfold f_X12_fors_255
  exact (kv_ite (kv_some ⟨rfl, rfl, rfl, rfl⟩) kv_none)
theorem kr_f_X12_fors_469 (N : Nat) (σ : RS) : KV σ (f_X12_fors_469 N σ) := by
  unfold f_X12_fors_469
  exact (kv_some ⟨rfl, rfl, rfl, rfl⟩)
theorem kr_f_X12_fors (N : Nat) (σ : RS) (x1 : Int32) : KV σ (f_X12_fors N σ x1) := by
  unfold f_X12_fors
  exact (kv_ite (kv_ite (kv_bindv (kv_st ⟨rfl, rfl, rfl, rfl⟩ (kr_f_X12_next N (RS.setA σ 71 ((x1 : Int32).toNatClampNeg) (σ.i 38)))) (fun p3 => (kv_bind (kr_st ⟨rfl, rfl, rfl, rfl⟩ (kr_f_X12_open N p3 40)) (fun p5 => (kv_bindv (kv_st ⟨rfl, rfl, rfl, rfl⟩ (kr_f_X12_forHead N p5.2 x1)) (fun p7 => (kv_some ⟨rfl, rfl, rfl, rfl⟩))))))) (kv_ite (kv_bind (kr_st ⟨rfl, rfl, rfl, rfl⟩ (kr_f_X12_see N σ (σ.b 74 ((x1 : Int32).toNatClampNeg)) 0)) (fun p10 => (kv_bind (kr_st ⟨rfl, rfl, rfl, rfl⟩ (kr_f_X12_emit N p10.2 5 p10.1)) (fun p12 => (kv_some ⟨rfl, rfl, rfl, rfl⟩))))) (kv_ite (kv_bind (kr_st ⟨rfl, rfl, rfl, rfl⟩ (kr_f_X12_emit N σ 5 (σ.a 66 ((x1 : Int32).toNatClampNeg)))) (fun p15 => (kv_some ⟨rfl, rfl, rfl, rfl⟩))) (kv_ite (kv_bind (kr_st ⟨rfl, rfl, rfl, rfl⟩ (kr_f_X12_need N σ 59)) (fun p18 => (kv_ite (kv_st ⟨rfl, rfl, rfl, rfl⟩ (kr_f_X12_fors_175 N (RS.setA (RS.setA p18.2 66 ((x1 : Int32).toNatClampNeg) (p18.2.i 20)) 69 ((x1 : Int32).toNatClampNeg) (p18.2.i 17)) x1)) (kv_st ⟨rfl, rfl, rfl, rfl⟩ (kr_f_X12_fors_175 N (RS.setA (RS.setA p18.2 66 ((x1 : Int32).toNatClampNeg) (p18.2.i 20)) 69 ((x1 : Int32).toNatClampNeg) 0) x1))))) (kv_ite (kv_bind (kr_st ⟨rfl, rfl, rfl, rfl⟩ (kr_f_X12_isJustTrue N σ (σ.a 69 ((x1 : Int32).toNatClampNeg)))) (fun p31 => (kv_ite (kv_st ⟨rfl, rfl, rfl, rfl⟩ (kr_f_X12_fors_255 N (RS.setA p31.2 72 ((x1 : Int32).toNatClampNeg) 0) x1)) (kv_st ⟨rfl, rfl, rfl, rfl⟩ (kr_f_X12_fors_255 N (RS.setA p31.2 72 ((x1 : Int32).toNatClampNeg) 1) x1))))) (kv_ite (kv_bindv (kv_st ⟨rfl, rfl, rfl, rfl⟩ (kr_f_X12_forBehind N σ x1)) (fun p36 => (kv_some ⟨rfl, rfl, rfl, rfl⟩))) (kv_ite (kv_bind (kr_st ⟨rfl, rfl, rfl, rfl⟩ (kr_f_X12_emit N σ 5 (σ.a 73 ((x1 : Int32).toNatClampNeg)))) (fun p39 => (kv_some ⟨rfl, rfl, rfl, rfl⟩))) (kv_ite (kv_bind (kr_st ⟨rfl, rfl, rfl, rfl⟩ (kr_f_X12_emit N σ 15 (σ.a 66 ((x1 : Int32).toNatClampNeg)))) (fun p42 => (kv_bind (kr_st ⟨rfl, rfl, rfl, rfl⟩ (kr_f_X12_shut N p42.2 41)) (fun p44 => (kv_ite (kv_bind (kr_st ⟨rfl, rfl, rfl, rfl⟩ (kr_f_X12_emit N (RS.setA p44.2 22 (((p44.2.a 68 ((x1 : Int32).toNatClampNeg)) : Int32).toNatClampNeg) (p44.2.i 20)) 1 0)) (fun p47 => (kv_bind (kr_st ⟨rfl, rfl, rfl, rfl⟩ (kr_f_X12_loopGoal N p47.2)) (fun p49 => (kv_bindv (kv_st ⟨rfl, rfl, rfl, rfl⟩ (kr_f_X12_body N (RS.setA p49.2 73 ((x1 : Int32).toNatClampNeg) p49.1) 8)) (fun p51 => (kv_some ⟨rfl, rfl, rfl, rfl⟩))))))) kv_none))))) (kv_ite (kv_ite (kv_bindv (kv_st ⟨rfl, rfl, rfl, rfl⟩ (kr_f_X12_patch N σ (σ.a 49 (((σ.a 73 ((x1 : Int32).toNatClampNeg)) : Int32).toNatClampNeg)) (σ.a 70 ((x1 : Int32).toNatClampNeg)))) (fun p55 => (kv_bind (kr_st ⟨rfl, rfl, rfl, rfl⟩ (kr_f_X12_emit N p55 15 (p55.a 70 ((x1 : Int32).toNatClampNeg)))) (fun p57 => (kv_ite (kv_bindv (kv_st ⟨rfl, rfl, rfl, rfl⟩ (kr_f_X12_patch N (RS.setA p57.2 22 (((p57.2.a 67 ((x1 : Int32).toNatClampNeg)) : Int32).toNatClampNeg) (p57.2.i 20)) (p57.2.a 48 (((σ.a 73 ((x1 : Int32).toNatClampNeg)) : Int32).toNatClampNeg)) (p57.2.i 20))) (fun p60 => (kv_ite (kv_bindv (kv_st ⟨rfl, rfl, rfl, rfl⟩ (kr_f_X12_over N (RS.setI (RS.setI p60 43 ((p60.i 43) - 1)) 38 (p60.a 71 ((x1 : Int32).toNatClampNeg))) 1)) (fun p63 => (kv_st ⟨rfl, rfl, rfl, rfl⟩ (kr_f_X12_fors_469 N p63)))) (kv_ite (kv_bindv (kv_st ⟨rfl, rfl, rfl, rfl⟩ (kr_f_X12_over N (RS.setI (RS.setI p60 43 ((p60.i 43) - 1)) 38 (p60.a 71 ((x1 : Int32).toNatClampNeg))) 0)) (fun p66 => (kv_st ⟨rfl, rfl, rfl, rfl⟩ (kr_f_X12_fors_469 N p66)))) (kv_bindv (kv_st ⟨rfl, rfl, rfl, rfl⟩ (kr_f_X12_over N (RS.setI (RS.setI p60 43 ((p60.i 43) - 1)) 38 (p60.a 71 ((x1 : Int32).toNatClampNeg))) 1)) (fun p68 => (kv_st ⟨rfl, rfl, rfl, rfl⟩ (kr_f_X12_fors_469 N p68)))))))) kv_none))))) kv_none) (kv_bindv (kv_st ⟨rfl, rfl, rfl, rfl⟩ (kr_f_X12_rows N σ x1)) (fun p70 => (kv_some ⟨rfl, rfl, rfl, rfl⟩)))))))))))) kv_none)
theorem kr_f_X12_lock_94 (N : Nat) (σ : RS) : KV σ (f_X12_lock_94 N σ) := by
  unfold f_X12_lock_94
  exact (kv_bind (kr_st ⟨rfl, rfl, rfl, rfl⟩ (kr_f_X12_shut N σ 41)) (fun p13 => (kv_bindv (kv_st ⟨rfl, rfl, rfl, rfl⟩ (kr_f_X12_then N (RS.setI p13.2 52 ((p13.2.i 52) + 1)) 1 3)) (fun p15 => (kv_some ⟨rfl, rfl, rfl, rfl⟩)))))
theorem kr_f_X12_lock_90 (N : Nat) (σ : RS) : KV σ (f_X12_lock_90 N σ) := by
  unfold f_X12_lock_90
  exact (kv_bindv (kv_st ⟨rfl, rfl, rfl, rfl⟩ (kr_f_X12_next N σ)) (fun p21 => (kv_st ⟨rfl, rfl, rfl, rfl⟩ (kr_f_X12_lock_94 N p21))))
theorem kr_f_X12_lock_50 (N : Nat) (σ : RS) : KV σ (f_X12_lock_50 N σ) := by
  unfold f_X12_lock_50
  exact (kv_ite (kv_bind (kr_st ⟨rfl, rfl, rfl, rfl⟩ (kr_f_X12_emit N σ 20 1)) (fun p24 => (kv_st ⟨rfl, rfl, rfl, rfl⟩ (kr_f_X12_lock_90 N p24.2)))) (kv_bind (kr_st ⟨rfl, rfl, rfl, rfl⟩ (kr_f_X12_emit N σ 26 (σ.i 14))) (fun p19 => (kv_st ⟨rfl, rfl, rfl, rfl⟩ (kr_f_X12_lock_90 N p19.2)))))
theorem kr_f_X12_lock (N : Nat) (σ : RS) (x1 : Int32) : KV σ (f_X12_lock N σ x1) := by
  unfold f_X12_lock
  exact (kv_ite (kv_ite (kv_bindv (kv_st ⟨rfl, rfl, rfl, rfl⟩ (kr_f_X12_next N σ)) (fun p5 => (kv_bind (kr_st ⟨rfl, rfl, rfl, rfl⟩ (kr_f_X12_open N p5 40)) (fun p7 => (kv_ite (kv_bind (kr_st ⟨rfl, rfl, rfl, rfl⟩ (kr_f_X12_can N p7.2 1)) (fun p10 => (kv_ite (kv_st ⟨rfl, rfl, rfl, rfl⟩ (kr_f_X12_lock_94 N p10.2)) (kv_st ⟨rfl, rfl, rfl, rfl⟩ (kr_f_X12_lock_50 N p10.2))))) (kv_ite (kv_bind (kr_st ⟨rfl, rfl, rfl, rfl⟩ (kr_f_X12_can N p7.2 1)) (fun p30 => (kv_ite (kv_st ⟨rfl, rfl, rfl, rfl⟩ (kr_f_X12_lock_94 N p30.2)) (kv_st ⟨rfl, rfl, rfl, rfl⟩ (kr_f_X12_lock_50 N p30.2))))) (kv_bind (kr_st ⟨rfl, rfl, rfl, rfl⟩ (kr_f_X12_can N p7.2 0)) (fun p27 => (kv_ite (kv_st ⟨rfl, rfl, rfl, rfl⟩ (kr_f_X12_lock_94 N p27.2)) (kv_st ⟨rfl, rfl, rfl, rfl⟩ (kr_f_X12_lock_50 N p27.2))))))))))) (kv_bind (kr_st ⟨rfl, rfl, rfl, rfl⟩ (kr_f_X12_emit N σ 27 0)) (fun p3 => (kv_some ⟨rfl, rfl, rfl, rfl⟩)))) kv_none)
theorem kr_f_X12_entry_85 (N : Nat) (σ : RS) (x1 : Int32) : KV σ (f_X12_entry_85 N σ x1) := by
  unfold f_X12_entry_85
  exact (kv_ite (kv_some ⟨rfl, rfl, rfl, rfl⟩) kv_none)
theorem kr_f_X12_entry (N : Nat) (σ : RS) (x1 : Int32) (x2 : Int32) (x3 : Int32) : KV σ (f_X12_entry N σ x1 x2 x3) := by
  unfold f_X12_entry
  exact (kv_ite (kv_ite (kv_ite (kv_ite (kv_st ⟨rfl, rfl, rfl, rfl⟩ (kr_f_X12_entry_85 N (RS.setA (RS.setA (RS.setA (RS.setA (RS.setA σ 25 (((σ.i 24) : Int32).toNatClampNeg) x2) 26 (((σ.i 24) : Int32).toNatClampNeg) (σ.i 20)) 27 (((σ.i 24) : Int32).toNatClampNeg) (-1)) 28 (((σ.i 24) : Int32).toNatClampNeg) (vp_nar .boolean x3)) 27 (((σ.a 67 ((x1 : Int32).toNatClampNeg)) : Int32).toNatClampNeg) (σ.i 24)) x1)) kv_none) (kv_ite (kv_st ⟨rfl, rfl, rfl, rfl⟩ (kr_f_X12_entry_85 N (RS.setA (RS.setA (RS.setA (RS.setA (RS.setA σ 25 (((σ.i 24) : Int32).toNatClampNeg) x2) 26 (((σ.i 24) : Int32).toNatClampNeg) (σ.i 20)) 27 (((σ.i 24) : Int32).toNatClampNeg) (-1)) 28 (((σ.i 24) : Int32).toNatClampNeg) (vp_nar .boolean x3)) 22 (((σ.a 66 ((x1 : Int32).toNatClampNeg)) : Int32).toNatClampNeg) (σ.i 24)) x1)) kv_none)) kv_none) kv_none)
theorem kr_f_X12_caseNumber_140 (N : Nat) (σ : RS) : KR σ (f_X12_caseNumber_140 N σ) := by
  unfold f_X12_caseNumber_140
  exact (kr_ite (kr_some ⟨rfl, rfl, rfl, rfl⟩) (kr_some ⟨rfl, rfl, rfl, rfl⟩))
theorem kr_b_X12_caseNumber_75 (N : Nat) (K : RS → Int32 → Int32 → Int32 → Option (Int32 × RS)) (hK : ∀ (σ : RS) (y0 : Int32) (y1 : Int32) (y2 : Int32), KR σ (K σ y0 y1 y2)) (σ : RS) (x1 : Int32) (x3 : Int32) (x4 : Int32) : KR σ (b_X12_caseNumber_75 N K σ x1 x3 x4) := by
  unfold b_X12_caseNumber_75
  exact (kr_ite (kr_ite (kr_bindv (kv_st ⟨rfl, rfl, rfl, rfl⟩ (kr_f_X12_entry N σ x1 x3 0)) (fun p13 => (kr_bindv (kv_st ⟨rfl, rfl, rfl, rfl⟩ (kr_f_X12_next N p13)) (fun p15 => (kr_st ⟨rfl, rfl, rfl, rfl⟩ (kr_f_X12_caseNumber_140 N p15)))))) (kr_st ⟨rfl, rfl, rfl, rfl⟩ (kr_f_X12_caseNumber_140 N σ))) (kr_ite (kr_ite (kr_ite (kr_bindv (kv_st ⟨rfl, rfl, rfl, rfl⟩ (kr_f_X12_fail N σ 4 (σ.i 11))) (fun p20 => (kr_st ⟨rfl, rfl, rfl, rfl⟩ (hK p20 x1 x3 (p20.a 27 ((x4 : Int32).toNatClampNeg)))))) (kr_st ⟨rfl, rfl, rfl, rfl⟩ (hK σ x1 x3 (σ.a 27 ((x4 : Int32).toNatClampNeg))))) (kr_st ⟨rfl, rfl, rfl, rfl⟩ (hK σ x1 x3 (σ.a 27 ((x4 : Int32).toNatClampNeg))))) kr_none))
theorem kr_f_X12_caseNumber_75 (N : Nat) : ∀ (n : Nat) (σ : RS) (y0 : Int32) (y1 : Int32) (y2 : Int32), KR σ (f_X12_caseNumber_75 N n σ y0 y1 y2)
  | 0, _, _, _, _ => kr_none
  | n+1, σ, y0, y1, y2 => kr_b_X12_caseNumber_75 N (f_X12_caseNumber_75 N n) (fun σ y0 y1 y2 => kr_f_X12_caseNumber_75 N n σ y0 y1 y2) σ y0 y1 y2
theorem kr_f_X12_caseNumber_62 (N : Nat) (σ : RS) (x1 : Int32) (x3 : Int32) : KR σ (f_X12_caseNumber_62 N σ x1 x3) := by
  unfold f_X12_caseNumber_62
  exact (kr_ite (kr_ite (kr_st ⟨rfl, rfl, rfl, rfl⟩ (kr_f_X12_caseNumber_75 N N σ x1 x3 (σ.a 22 (((σ.a 66 ((x1 : Int32).toNatClampNeg)) : Int32).toNatClampNeg)))) kr_none) kr_none)
theorem kr_f_X12_caseNumber_45 (N : Nat) (σ : RS) (x1 : Int32) (x2 : Int32) : KR σ (f_X12_caseNumber_45 N σ x1 x2) := by
  unfold f_X12_caseNumber_45
  exact (kr_ite (kr_st ⟨rfl, rfl, rfl, rfl⟩ (kr_f_X12_caseNumber_62 N σ x1 (σ.i 14))) (kr_st ⟨rfl, rfl, rfl, rfl⟩ (kr_f_X12_caseNumber_62 N σ x1 (-(σ.i 14)))))
theorem kr_f_X12_caseNumber_43 (N : Nat) (σ : RS) : KR σ (f_X12_caseNumber_43 N σ) := by
  unfold f_X12_caseNumber_43
  exact (kr_some ⟨rfl, rfl, rfl, rfl⟩)
theorem kr_f_X12_caseNumber_23 (N : Nat) (σ : RS) (x1 : Int32) (x2 : Int32) : KR σ (f_X12_caseNumber_23 N σ x1 x2) := by
  unfold f_X12_caseNumber_23
  exact (kr_ite (kr_bind (kr_st ⟨rfl, rfl, rfl, rfl⟩ (kr_f_X12_can N σ 1)) (fun p22 => (kr_ite (kr_st ⟨rfl, rfl, rfl, rfl⟩ (kr_f_X12_caseNumber_43 N p22.2)) (kr_st ⟨rfl, rfl, rfl, rfl⟩ (kr_f_X12_caseNumber_45 N p22.2 x1 x2))))) (kr_bind (kr_st ⟨rfl, rfl, rfl, rfl⟩ (kr_f_X12_can N σ 0)) (fun p4 => (kr_ite (kr_st ⟨rfl, rfl, rfl, rfl⟩ (kr_f_X12_caseNumber_43 N p4.2)) (kr_st ⟨rfl, rfl, rfl, rfl⟩ (kr_f_X12_caseNumber_45 N p4.2 x1 x2))))))
theorem kr_f_X12_caseNumber_15 (N : Nat) (σ : RS) (x1 : Int32) (x2 : Int32) : KR σ (f_X12_caseNumber_15 N σ x1 x2) := by
  unfold f_X12_caseNumber_15
  exact (kr_ite (kr_st ⟨rfl, rfl, rfl, rfl⟩ (kr_f_X12_caseNumber_23 N σ x1 x2)) (kr_bindv (kv_st ⟨rfl, rfl, rfl, rfl⟩ (kr_f_X12_next N σ)) (fun p25 => (kr_st ⟨rfl, rfl, rfl, rfl⟩ (kr_f_X12_caseNumber_23 N p25 x1 x2)))))
theorem kr_f_X12_caseNumber (N : Nat) (σ : RS) (x1 : Int32) : KR σ (f_X12_caseNumber N σ x1) := by
  unfold f_X12_caseNumber
  exact (kr_ite (kr_st ⟨rfl, rfl, rfl, rfl⟩ (kr_f_X12_caseNumber_15 N σ x1 1)) (kr_st ⟨rfl, rfl, rfl, rfl⟩ (kr_f_X12_caseNumber_15 N σ x1 0)))
theorem kr_f_X12_groups_335 (N : Nat) (σ : RS) : KV σ (f_X12_groups_335 N σ) := by
  unfold f_X12_groups_335
  exact (kv_some ⟨rfl, rfl, rfl, rfl⟩)
theorem kr_f_X12_groups_356 (N : Nat) (σ : RS) (x1 : Int32) : KV σ (f_X12_groups_356 N σ x1) := by
  unfold f_X12_groups_356
  exact (kv_ite (kv_some ⟨rfl, rfl, rfl, rfl⟩) kv_none)
theorem kr_f_X12_groups (N : Nat) (σ : RS) (x1 : Int32) : KV σ (f_X12_groups N σ x1) := by
  unfold f_X12_groups
  exact (kv_ite (kv_ite (kv_bindv (kv_st ⟨rfl, rfl, rfl, rfl⟩ (kr_f_X12_next N σ)) (fun p3 => (kv_bind (kr_st ⟨rfl, rfl, rfl, rfl⟩ (kr_f_X12_open N p3 40)) (fun p5 => (kv_bindv (kv_st ⟨rfl, rfl, rfl, rfl⟩ (kr_f_X12_then N p5.2 1 16)) (fun p7 => (kv_some ⟨rfl, rfl, rfl, rfl⟩))))))) (kv_ite (kv_bind (kr_st ⟨rfl, rfl, rfl, rfl⟩ (kr_f_X12_shut N σ 41)) (fun p10 => (kv_bind (kr_st ⟨rfl, rfl, rfl, rfl⟩ (kr_f_X12_emit N p10.2 28 (-1))) (fun p12 => (kv_bind (kr_st ⟨rfl, rfl, rfl, rfl⟩ (kr_f_X12_goal N (RS.setA (RS.setA (RS.setA (RS.setA (RS.setA p12.2 66 ((x1 : Int32).toNatClampNeg) p12.1) 67 ((x1 : Int32).toNatClampNeg) (-1)) 68 ((x1 : Int32).toNatClampNeg) 0) 70 ((x1 : Int32).toNatClampNeg) 1) 71 ((x1 : Int32).toNatClampNeg) (p12.2.i 38)) 1 0)) (fun p14 => (kv_bind (kr_st ⟨rfl, rfl, rfl, rfl⟩ (kr_f_X12_open N (RS.setA p14.2 72 ((x1 : Int32).toNatClampNeg) p14.1) 123)) (fun p16 => (kv_some ⟨rfl, rfl, rfl, rfl⟩))))))))) (kv_ite (kv_ite (kv_bindv (kv_st ⟨rfl, rfl, rfl, rfl⟩ (kr_f_X12_next N σ)) (fun p49 => (kv_bind (kr_st ⟨rfl, rfl, rfl, rfl⟩ (kr_f_X12_caseNumber N p49 x1)) (fun p51 => (kv_ite (kv_some ⟨rfl, rfl, rfl, rfl⟩) (kv_bind (kr_st ⟨rfl, rfl, rfl, rfl⟩ (kr_f_X12_need N p51.2 58)) (fun p54 => (kv_bindv (kv_st ⟨rfl, rfl, rfl, rfl⟩ (kr_f_X12_then N p54.2 3 1)) (fun p56 => (kv_some ⟨rfl, rfl, rfl, rfl⟩)))))))))) (kv_ite (kv_ite (kv_bindv (kv_st ⟨rfl, rfl, rfl, rfl⟩ (kr_f_X12_fail N σ 4 (σ.i 11))) (fun p47 => (kv_some ⟨rfl, rfl, rfl, rfl⟩))) (kv_bindv (kv_st ⟨rfl, rfl, rfl, rfl⟩ (kr_f_X12_entry N (RS.setA σ 68 ((x1 : Int32).toNatClampNeg) 1) x1 0 1)) (fun p39 => (kv_bindv (kv_st ⟨rfl, rfl, rfl, rfl⟩ (kr_f_X12_next N p39)) (fun p41 => (kv_bind (kr_st ⟨rfl, rfl, rfl, rfl⟩ (kr_f_X12_need N p41 58)) (fun p43 => (kv_bindv (kv_st ⟨rfl, rfl, rfl, rfl⟩ (kr_f_X12_then N p43.2 3 1)) (fun p45 => (kv_some ⟨rfl, rfl, rfl, rfl⟩)))))))))) (kv_bind (kr_st ⟨rfl, rfl, rfl, rfl⟩ (kr_f_X12_shut N σ 125)) (fun p21 => (kv_ite (kv_ite (kv_bindv (kv_st ⟨rfl, rfl, rfl, rfl⟩ (kr_f_X12_patch N (RS.setA p21.2 23 (((p21.2.a 66 ((x1 : Int32).toNatClampNeg)) : Int32).toNatClampNeg) (p21.2.i 20)) (p21.2.a 48 (((p21.2.a 72 ((x1 : Int32).toNatClampNeg)) : Int32).toNatClampNeg)) (p21.2.i 20))) (fun p25 => (kv_ite (kv_bindv (kv_st ⟨rfl, rfl, rfl, rfl⟩ (kr_f_X12_over N (RS.setI (RS.setI p25 43 ((p25.i 43) - 1)) 38 (p25.a 71 ((x1 : Int32).toNatClampNeg))) 1)) (fun p28 => (kv_st ⟨rfl, rfl, rfl, rfl⟩ (kr_f_X12_groups_335 N p28)))) (kv_ite (kv_bindv (kv_st ⟨rfl, rfl, rfl, rfl⟩ (kr_f_X12_over N (RS.setI (RS.setI p25 43 ((p25.i 43) - 1)) 38 (p25.a 71 ((x1 : Int32).toNatClampNeg))) 1)) (fun p31 => (kv_st ⟨rfl, rfl, rfl, rfl⟩ (kr_f_X12_groups_335 N p31)))) (kv_ite (kv_bindv (kv_st ⟨rfl, rfl, rfl, rfl⟩ (kr_f_X12_over N (RS.setI (RS.setI p25 43 ((p25.i 43) - 1)) 38 (p25.a 71 ((x1 : Int32).toNatClampNeg))) 0)) (fun p34 => (kv_st ⟨rfl, rfl, rfl, rfl⟩ (kr_f_X12_groups_335 N p34)))) (kv_bindv (kv_st ⟨rfl, rfl, rfl, rfl⟩ (kr_f_X12_over N (RS.setI (RS.setI p25 43 ((p25.i 43) - 1)) 38 (p25.a 71 ((x1 : Int32).toNatClampNeg))) 1)) (fun p36 => (kv_st ⟨rfl, rfl, rfl, rfl⟩ (kr_f_X12_groups_335 N p36))))))))) kv_none) kv_none))))) (kv_ite (kv_st ⟨rfl, rfl, rfl, rfl⟩ (kr_f_X12_groups_356 N (RS.setA σ 70 ((x1 : Int32).toNatClampNeg) 0) x1)) (kv_st ⟨rfl, rfl, rfl, rfl⟩ (kr_f_X12_groups_356 N (RS.setA σ 70 ((x1 : Int32).toNatClampNeg) 1) x1)))))) kv_none)
theorem kr_b_X12_catching_323 (N : Nat) (K : RS → Int32 → Int32 → Option (RS)) (hK : ∀ (σ : RS) (y0 : Int32) (y1 : Int32), KV σ (K σ y0 y1)) (σ : RS) (x4 : Int32) (x5 : Int32) : KV σ (b_X12_catching_323 N K σ x4 x5) := by
  unfold b_X12_catching_323
  exact (kv_ite (kv_bindv (kv_st ⟨rfl, rfl, rfl, rfl⟩ (kr_f_X12_then N σ 3 3)) (fun p20 => (kv_some ⟨rfl, rfl, rfl, rfl⟩))) (kv_ite (kv_st ⟨rfl, rfl, rfl, rfl⟩ (hK (RS.setA (RS.setA σ 35 ((x5 : Int32).toNatClampNeg) (σ.i 20)) 36 ((x5 : Int32).toNatClampNeg) x4) x4 (x5 + 1))) kv_none))
theorem kr_f_X12_catching_323 (N : Nat) : ∀ (n : Nat) (σ : RS) (y0 : Int32) (y1 : Int32), KV σ (f_X12_catching_323 N n σ y0 y1)
  | 0, _, _, _ => kv_none
  | n+1, σ, y0, y1 => kr_b_X12_catching_323 N (f_X12_catching_323 N n) (fun σ y0 y1 => kr_f_X12_catching_323 N n σ y0 y1) σ y0 y1
theorem kr_f_X12_catching_277 (N : Nat) (σ : RS) (x2 : Int32) : KV σ (f_X12_catching_277 N σ x2) := by
  unfold f_X12_catching_277
  exact (kv_bind (kr_st ⟨rfl, rfl, rfl, rfl⟩ (kr_f_X12_seenAs N σ σ.l)) (fun p10 => (kv_ite (kv_bind (kr_st ⟨rfl, rfl, rfl, rfl⟩ (kr_f_X12_see N p10.2 p10.2.l 1)) (fun p13 => (kv_bindv (kv_st ⟨rfl, rfl, rfl, rfl⟩ (kr_f_X12_next N p13.2)) (fun p15 => (kv_bind (kr_st ⟨rfl, rfl, rfl, rfl⟩ (kr_f_X12_shut N p15 41)) (fun p17 => (kv_st ⟨rfl, rfl, rfl, rfl⟩ (kr_f_X12_catching_323 N N p17.2 p13.1 x2)))))))) (kv_bindv (kv_st ⟨rfl, rfl, rfl, rfl⟩ (kr_f_X12_fail N p10.2 4 (p10.2.i 11))) (fun p23 => (kv_some ⟨rfl, rfl, rfl, rfl⟩))))))
theorem kr_f_X12_catching_256 (N : Nat) (σ : RS) (x2 : Int32) : KV σ (f_X12_catching_256 N σ x2) := by
  unfold f_X12_catching_256
  exact (kv_ite (kv_bind (kr_st ⟨rfl, rfl, rfl, rfl⟩ (kr_f_X12_can N σ 1)) (fun p25 => (kv_ite (kv_some ⟨rfl, rfl, rfl, rfl⟩) (kv_st ⟨rfl, rfl, rfl, rfl⟩ (kr_f_X12_catching_277 N p25.2 x2))))) (kv_bind (kr_st ⟨rfl, rfl, rfl, rfl⟩ (kr_f_X12_can N σ 0)) (fun p7 => (kv_ite (kv_some ⟨rfl, rfl, rfl, rfl⟩) (kv_st ⟨rfl, rfl, rfl, rfl⟩ (kr_f_X12_catching_277 N p7.2 x2))))))
theorem kr_b_X12_catching_82 (N : Nat) (K18 : RS → Int32 → Int32 → Int32 → Option (RS)) (hK18 : ∀ (σ : RS) (y0 : Int32) (y1 : Int32) (y2 : Int32), KV σ (K18 σ y0 y1 y2)) (K : RS → Int32 → Int32 → Int32 → Option (RS)) (hK : ∀ (σ : RS) (y0 : Int32) (y1 : Int32) (y2 : Int32), KV σ (K σ y0 y1 y2)) (σ : RS) (x1 : Int32) (x2 : Int32) (x4 : Int32) : KV σ (b_X12_catching_82 N K18 K σ x1 x2 x4) := by
  unfold b_X12_catching_82
  exact (kv_ite (kv_ite (kv_ite (kv_ite (kv_ite (kv_bindv (kv_st ⟨rfl, rfl, rfl, rfl⟩ (kr_f_X12_next N (RS.setI (RS.setA (RS.setA (RS.setA (RS.setA σ 34 (((σ.i 33) : Int32).toNatClampNeg) (σ.i 14)) 37 (((σ.i 33) : Int32).toNatClampNeg) (-1)) 37 (((σ.a 72 ((x1 : Int32).toNatClampNeg)) : Int32).toNatClampNeg) (σ.i 33)) 72 ((x1 : Int32).toNatClampNeg) (σ.i 33)) 33 ((σ.i 33) + 1)))) (fun p41 => (kv_ite (kv_ite (kv_bindv (kv_st ⟨rfl, rfl, rfl, rfl⟩ (kr_f_X12_next N p41)) (fun p45 => (kv_st ⟨rfl, rfl, rfl, rfl⟩ (hK18 p45 x1 x2 1)))) (kv_st ⟨rfl, rfl, rfl, rfl⟩ (hK18 p41 x1 x2 0))) (kv_st ⟨rfl, rfl, rfl, rfl⟩ (hK18 p41 x1 x2 0))))) kv_none) (kv_ite (kv_bindv (kv_st ⟨rfl, rfl, rfl, rfl⟩ (kr_f_X12_next N (RS.setI (RS.setA (RS.setA (RS.setA (RS.setA σ 34 (((σ.i 33) : Int32).toNatClampNeg) (σ.i 14)) 37 (((σ.i 33) : Int32).toNatClampNeg) (-1)) 30 (((σ.a 66 ((x1 : Int32).toNatClampNeg)) : Int32).toNatClampNeg) (σ.i 33)) 72 ((x1 : Int32).toNatClampNeg) (σ.i 33)) 33 ((σ.i 33) + 1)))) (fun p48 => (kv_ite (kv_ite (kv_bindv (kv_st ⟨rfl, rfl, rfl, rfl⟩ (kr_f_X12_next N p48)) (fun p52 => (kv_st ⟨rfl, rfl, rfl, rfl⟩ (hK18 p52 x1 x2 1)))) (kv_st ⟨rfl, rfl, rfl, rfl⟩ (hK18 p48 x1 x2 0))) (kv_st ⟨rfl, rfl, rfl, rfl⟩ (hK18 p48 x1 x2 0))))) kv_none)) kv_none) kv_none) (kv_ite (kv_ite (kv_bind (kr_st ⟨rfl, rfl, rfl, rfl⟩ (kr_f_X12_isUnder N σ (σ.i 14) (σ.a 34 ((x4 : Int32).toNatClampNeg)))) (fun p73 => (kv_ite (kv_st ⟨rfl, rfl, rfl, rfl⟩ (hK p73.2 x1 x2 (p73.2.a 37 ((x4 : Int32).toNatClampNeg)))) (kv_bindv (kv_st ⟨rfl, rfl, rfl, rfl⟩ (kr_f_X12_fail N p73.2 6 (p73.2.i 11))) (fun p76 => (kv_st ⟨rfl, rfl, rfl, rfl⟩ (hK p76 x1 x2 (p76.a 37 ((x4 : Int32).toNatClampNeg))))))))) kv_none) (kv_ite (kv_ite (kv_ite (kv_ite (kv_bindv (kv_st ⟨rfl, rfl, rfl, rfl⟩ (kr_f_X12_next N (RS.setI (RS.setA (RS.setA (RS.setA (RS.setA σ 34 (((σ.i 33) : Int32).toNatClampNeg) (σ.i 14)) 37 (((σ.i 33) : Int32).toNatClampNeg) (-1)) 37 (((σ.a 72 ((x1 : Int32).toNatClampNeg)) : Int32).toNatClampNeg) (σ.i 33)) 72 ((x1 : Int32).toNatClampNeg) (σ.i 33)) 33 ((σ.i 33) + 1)))) (fun p59 => (kv_ite (kv_ite (kv_bindv (kv_st ⟨rfl, rfl, rfl, rfl⟩ (kr_f_X12_next N p59)) (fun p63 => (kv_st ⟨rfl, rfl, rfl, rfl⟩ (hK18 p63 x1 x2 1)))) (kv_st ⟨rfl, rfl, rfl, rfl⟩ (hK18 p59 x1 x2 0))) (kv_st ⟨rfl, rfl, rfl, rfl⟩ (hK18 p59 x1 x2 0))))) kv_none) (kv_ite (kv_bindv (kv_st ⟨rfl, rfl, rfl, rfl⟩ (kr_f_X12_next N (RS.setI (RS.setA (RS.setA (RS.setA (RS.setA σ 34 (((σ.i 33) : Int32).toNatClampNeg) (σ.i 14)) 37 (((σ.i 33) : Int32).toNatClampNeg) (-1)) 30 (((σ.a 66 ((x1 : Int32).toNatClampNeg)) : Int32).toNatClampNeg) (σ.i 33)) 72 ((x1 : Int32).toNatClampNeg) (σ.i 33)) 33 ((σ.i 33) + 1)))) (fun p66 => (kv_ite (kv_ite (kv_bindv (kv_st ⟨rfl, rfl, rfl, rfl⟩ (kr_f_X12_next N p66)) (fun p70 => (kv_st ⟨rfl, rfl, rfl, rfl⟩ (hK18 p70 x1 x2 1)))) (kv_st ⟨rfl, rfl, rfl, rfl⟩ (hK18 p66 x1 x2 0))) (kv_st ⟨rfl, rfl, rfl, rfl⟩ (hK18 p66 x1 x2 0))))) kv_none)) kv_none) kv_none)))
theorem kr_f_X12_catching_82 (N : Nat) (K18 : RS → Int32 → Int32 → Int32 → Option (RS)) (hK18 : ∀ (σ : RS) (w0 : Int32) (w1 : Int32) (w2 : Int32), KV σ (K18 σ w0 w1 w2)) : ∀ (n : Nat) (σ : RS) (y0 : Int32) (y1 : Int32) (y2 : Int32), KV σ (f_X12_catching_82 N K18 n σ y0 y1 y2)
  | 0, _, _, _, _ => kv_none
  | n+1, σ, y0, y1, y2 => kr_b_X12_catching_82 N K18 hK18 (f_X12_catching_82 N K18 n) (fun σ y0 y1 y2 => kr_f_X12_catching_82 N K18 hK18 n σ y0 y1 y2) σ y0 y1 y2
theorem kr_b_X12_catching_18 (N : Nat) (K : RS → Int32 → Int32 → Int32 → Option (RS)) (hK : ∀ (σ : RS) (y0 : Int32) (y1 : Int32) (y2 : Int32), KV σ (K σ y0 y1 y2)) (σ : RS) (x1 : Int32) (x2 : Int32) (x3 : Int32) : KV σ (b_X12_catching_18 N K σ x1 x2 x3) := by
  unfold b_X12_catching_18
  exact (kv_ite (kv_st ⟨rfl, rfl, rfl, rfl⟩ (kr_f_X12_catching_256 N σ x2)) (kv_ite (kv_ite (kv_bind (kr_st ⟨rfl, rfl, rfl, rfl⟩ (kr_f_X12_can N σ 1)) (fun p82 => (kv_ite (kv_st ⟨rfl, rfl, rfl, rfl⟩ (hK p82.2 x1 x2 x3)) (kv_ite (kv_ite (kv_ite (kv_st ⟨rfl, rfl, rfl, rfl⟩ (kr_f_X12_catching_82 N K hK N p82.2 x1 x2 (p82.2.a 30 (((p82.2.a 66 ((x1 : Int32).toNatClampNeg)) : Int32).toNatClampNeg)))) kv_none) kv_none) (kv_bindv (kv_st ⟨rfl, rfl, rfl, rfl⟩ (kr_f_X12_fail N p82.2 3 (p82.2.i 11))) (fun p88 => (kv_ite (kv_ite (kv_st ⟨rfl, rfl, rfl, rfl⟩ (kr_f_X12_catching_82 N K hK N p88 x1 x2 (p88.a 30 (((p88.a 66 ((x1 : Int32).toNatClampNeg)) : Int32).toNatClampNeg)))) kv_none) kv_none))))))) (kv_bind (kr_st ⟨rfl, rfl, rfl, rfl⟩ (kr_f_X12_can N σ 0)) (fun p30 => (kv_ite (kv_st ⟨rfl, rfl, rfl, rfl⟩ (hK p30.2 x1 x2 x3)) (kv_ite (kv_ite (kv_ite (kv_st ⟨rfl, rfl, rfl, rfl⟩ (kr_f_X12_catching_82 N K hK N p30.2 x1 x2 (p30.2.a 30 (((p30.2.a 66 ((x1 : Int32).toNatClampNeg)) : Int32).toNatClampNeg)))) kv_none) kv_none) (kv_bindv (kv_st ⟨rfl, rfl, rfl, rfl⟩ (kr_f_X12_fail N p30.2 3 (p30.2.i 11))) (fun p78 => (kv_ite (kv_ite (kv_st ⟨rfl, rfl, rfl, rfl⟩ (kr_f_X12_catching_82 N K hK N p78 x1 x2 (p78.a 30 (((p78.a 66 ((x1 : Int32).toNatClampNeg)) : Int32).toNatClampNeg)))) kv_none) kv_none)))))))) (kv_st ⟨rfl, rfl, rfl, rfl⟩ (kr_f_X12_catching_256 N σ x2))))
theorem kr_f_X12_catching_18 (N : Nat) : ∀ (n : Nat) (σ : RS) (y0 : Int32) (y1 : Int32) (y2 : Int32), KV σ (f_X12_catching_18 N n σ y0 y1 y2)
  | 0, _, _, _, _ => kv_none
  | n+1, σ, y0, y1, y2 => kr_b_X12_catching_18 N (f_X12_catching_18 N n) (fun σ y0 y1 y2 => kr_f_X12_catching_18 N n σ y0 y1 y2) σ y0 y1 y2
theorem kr_f_X12_catching (N : Nat) (σ : RS) (x1 : Int32) : KV σ (f_X12_catching N σ x1) := by
  unfold f_X12_catching
  exact (kv_bindv (kv_st ⟨rfl, rfl, rfl, rfl⟩ (kr_f_X12_next N σ)) (fun p1 => (kv_bind (kr_st ⟨rfl, rfl, rfl, rfl⟩ (kr_f_X12_open N p1 40)) (fun p3 => (kv_st ⟨rfl, rfl, rfl, rfl⟩ (kr_f_X12_catching_18 N N p3.2 x1 (σ.i 33) 1))))))
theorem kr_f_X12_endTry (N : Nat) (σ : RS) (x1 : Int32) (x2 : Int32) : KV σ (f_X12_endTry N σ x1 x2) := by
  unfold f_X12_endTry
  exact (kv_ite (kv_ite (kv_bindv (kv_st ⟨rfl, rfl, rfl, rfl⟩ (kr_f_X12_resolve N (RS.setA (RS.setI σ 52 ((σ.i 52) - 1)) 32 (((σ.a 66 ((x1 : Int32).toNatClampNeg)) : Int32).toNatClampNeg) (σ.i 20)) (σ.a 66 ((x1 : Int32).toNatClampNeg)) x2)) (fun p3 => (kv_ite (kv_bindv (kv_st ⟨rfl, rfl, rfl, rfl⟩ (kr_f_X12_over N p3 0)) (fun p6 => (kv_some ⟨rfl, rfl, rfl, rfl⟩))) (kv_ite (kv_bindv (kv_st ⟨rfl, rfl, rfl, rfl⟩ (kr_f_X12_over N p3 1)) (fun p11 => (kv_some ⟨rfl, rfl, rfl, rfl⟩))) (kv_bindv (kv_st ⟨rfl, rfl, rfl, rfl⟩ (kr_f_X12_over N p3 0)) (fun p9 => (kv_some ⟨rfl, rfl, rfl, rfl⟩))))))) kv_none) kv_none)
theorem kr_f_X12_trying_215 (N : Nat) (σ : RS) (x1 : Int32) : KV σ (f_X12_trying_215 N σ x1) := by
  unfold f_X12_trying_215
  exact (kv_ite (kv_ite (kv_bindv (kv_st ⟨rfl, rfl, rfl, rfl⟩ (kr_f_X12_then N (RS.setA (RS.setI (RS.setA (RS.setA σ 57 (((σ.i 56) : Int32).toNatClampNeg) (σ.a 66 ((x1 : Int32).toNatClampNeg))) 58 (((σ.i 56) : Int32).toNatClampNeg) (σ.i 43)) 56 ((σ.i 56) + 1)) 72 ((x1 : Int32).toNatClampNeg) (-1)) 1 3)) (fun p13 => (kv_some ⟨rfl, rfl, rfl, rfl⟩))) kv_none) kv_none)
theorem kr_b_X12_trying_140 (N : Nat) (K : RS → Int32 → Int32 → Option (RS)) (hK : ∀ (σ : RS) (y0 : Int32) (y1 : Int32), KV σ (K σ y0 y1)) (σ : RS) (x1 : Int32) (x2 : Int32) : KV σ (b_X12_trying_140 N K σ x1 x2) := by
  unfold b_X12_trying_140
  exact (kv_ite (kv_st ⟨rfl, rfl, rfl, rfl⟩ (kr_f_X12_trying_215 N σ x1)) (kv_ite (kv_bindv (kv_st ⟨rfl, rfl, rfl, rfl⟩ (kr_f_X12_next N σ)) (fun p16 => (kv_ite (kv_bind (kr_st ⟨rfl, rfl, rfl, rfl⟩ (kr_f_X12_can N p16 1)) (fun p30 => (kv_ite (kv_ite (kv_ite (kv_st ⟨rfl, rfl, rfl, rfl⟩ (hK p30.2 x1 1)) (kv_st ⟨rfl, rfl, rfl, rfl⟩ (hK p30.2 x1 0))) (kv_st ⟨rfl, rfl, rfl, rfl⟩ (hK p30.2 x1 0))) (kv_bind (kr_st ⟨rfl, rfl, rfl, rfl⟩ (kr_f_X12_emit N p30.2 32 (p30.2.i 14))) (fun p35 => (kv_bindv (kv_st ⟨rfl, rfl, rfl, rfl⟩ (kr_f_X12_next N p35.2)) (fun p37 => (kv_ite (kv_ite (kv_st ⟨rfl, rfl, rfl, rfl⟩ (hK p37 x1 1)) (kv_st ⟨rfl, rfl, rfl, rfl⟩ (hK p37 x1 0))) (kv_st ⟨rfl, rfl, rfl, rfl⟩ (hK p37 x1 0)))))))))) (kv_bind (kr_st ⟨rfl, rfl, rfl, rfl⟩ (kr_f_X12_can N p16 0)) (fun p19 => (kv_ite (kv_ite (kv_ite (kv_st ⟨rfl, rfl, rfl, rfl⟩ (hK p19.2 x1 1)) (kv_st ⟨rfl, rfl, rfl, rfl⟩ (hK p19.2 x1 0))) (kv_st ⟨rfl, rfl, rfl, rfl⟩ (hK p19.2 x1 0))) (kv_bind (kr_st ⟨rfl, rfl, rfl, rfl⟩ (kr_f_X12_emit N p19.2 32 (p19.2.i 14))) (fun p24 => (kv_bindv (kv_st ⟨rfl, rfl, rfl, rfl⟩ (kr_f_X12_next N p24.2)) (fun p26 => (kv_ite (kv_ite (kv_st ⟨rfl, rfl, rfl, rfl⟩ (hK p26 x1 1)) (kv_st ⟨rfl, rfl, rfl, rfl⟩ (hK p26 x1 0))) (kv_st ⟨rfl, rfl, rfl, rfl⟩ (hK p26 x1 0))))))))))))) (kv_st ⟨rfl, rfl, rfl, rfl⟩ (kr_f_X12_trying_215 N σ x1))))
theorem kr_f_X12_trying_140 (N : Nat) : ∀ (n : Nat) (σ : RS) (y0 : Int32) (y1 : Int32), KV σ (f_X12_trying_140 N n σ y0 y1)
  | 0, _, _, _ => kv_none
  | n+1, σ, y0, y1 => kr_b_X12_trying_140 N (f_X12_trying_140 N n) (fun σ y0 y1 => kr_f_X12_trying_140 N n σ y0 y1) σ y0 y1
theorem kr_f_X12_trying_124 (N : Nat) (σ : RS) (x1 : Int32) : KV σ (f_X12_trying_124 N σ x1) := by
  unfold f_X12_trying_124
  exact (kv_ite (kv_st ⟨rfl, rfl, rfl, rfl⟩ (kr_f_X12_trying_140 N N σ x1 1)) (kv_st ⟨rfl, rfl, rfl, rfl⟩ (kr_f_X12_trying_140 N N σ x1 0)))
theorem kr_f_X12_trying_287 (N : Nat) (σ : RS) (x1 : Int32) : KV σ (f_X12_trying_287 N σ x1) := by
  unfold f_X12_trying_287
  exact (kv_ite (kv_bind (kr_st ⟨rfl, rfl, rfl, rfl⟩ (kr_f_X12_emit N σ 33 (σ.a 66 ((x1 : Int32).toNatClampNeg)))) (fun p44 => (kv_some ⟨rfl, rfl, rfl, rfl⟩))) kv_none)
theorem kr_f_X12_trying_417 (N : Nat) (σ : RS) (x1 : Int32) : KV σ (f_X12_trying_417 N σ x1) := by
  unfold f_X12_trying_417
  exact (kv_bindv (kv_st ⟨rfl, rfl, rfl, rfl⟩ (kr_f_X12_endTry N (RS.setI σ 56 ((σ.i 56) - 1)) x1 1)) (fun p53 => (kv_some ⟨rfl, rfl, rfl, rfl⟩)))
theorem kr_f_X12_trying_464 (N : Nat) (σ : RS) (x1 : Int32) : KV σ (f_X12_trying_464 N σ x1) := by
  unfold f_X12_trying_464
  exact (kv_ite (kv_bind (kr_st ⟨rfl, rfl, rfl, rfl⟩ (kr_f_X12_emit N σ 34 (σ.a 66 ((x1 : Int32).toNatClampNeg)))) (fun p72 => (kv_some ⟨rfl, rfl, rfl, rfl⟩))) kv_none)
theorem kr_f_X12_trying (N : Nat) (σ : RS) (x1 : Int32) : KV σ (f_X12_trying N σ x1) := by
  unfold f_X12_trying
  exact (kv_ite (kv_ite (kv_bindv (kv_st ⟨rfl, rfl, rfl, rfl⟩ (kr_f_X12_next N σ)) (fun p3 => (kv_ite (kv_bind (kr_st ⟨rfl, rfl, rfl, rfl⟩ (kr_f_X12_emit N (RS.setI (RS.setA (RS.setA (RS.setA p3 66 ((x1 : Int32).toNatClampNeg) (p3.i 29)) 30 (((p3.i 29) : Int32).toNatClampNeg) (-1)) 31 (((p3.i 29) : Int32).toNatClampNeg) (-1)) 29 ((p3.i 29) + 1)) 31 ((upd (p3.a 66) ((x1 : Int32).toNatClampNeg) (p3.i 29)) ((x1 : Int32).toNatClampNeg)))) (fun p6 => (kv_ite (kv_st ⟨rfl, rfl, rfl, rfl⟩ (kr_f_X12_trying_124 N (RS.setA (RS.setI p6.2 52 ((p6.2.i 52) + 1)) 67 ((x1 : Int32).toNatClampNeg) 1) x1)) (kv_st ⟨rfl, rfl, rfl, rfl⟩ (kr_f_X12_trying_124 N (RS.setA (RS.setI p6.2 52 ((p6.2.i 52) + 1)) 67 ((x1 : Int32).toNatClampNeg) 0) x1))))) kv_none))) (kv_ite (kv_ite (kv_st ⟨rfl, rfl, rfl, rfl⟩ (kr_f_X12_trying_287 N (RS.setA σ 68 ((x1 : Int32).toNatClampNeg) 0) x1)) (kv_st ⟨rfl, rfl, rfl, rfl⟩ (kr_f_X12_trying_287 N (RS.setA σ 68 ((x1 : Int32).toNatClampNeg) 1) x1))) (kv_ite (kv_ite (kv_bindv (kv_st ⟨rfl, rfl, rfl, rfl⟩ (kr_f_X12_catching N (RS.setA σ 71 ((x1 : Int32).toNatClampNeg) (σ.i 38)) x1)) (fun p67 => (kv_some ⟨rfl, rfl, rfl, rfl⟩))) (kv_ite (kv_bindv (kv_st ⟨rfl, rfl, rfl, rfl⟩ (kr_f_X12_next N (RS.setI σ 56 ((σ.i 56) - 1)))) (fun p62 => (kv_ite (kv_bindv (kv_st ⟨rfl, rfl, rfl, rfl⟩ (kr_f_X12_then N (RS.setA p62 31 (((p62.a 66 ((x1 : Int32).toNatClampNeg)) : Int32).toNatClampNeg) (p62.i 20)) 4 3)) (fun p65 => (kv_some ⟨rfl, rfl, rfl, rfl⟩))) kv_none))) (kv_ite (kv_bind (kr_st ⟨rfl, rfl, rfl, rfl⟩ (kr_f_X12_can N σ 1)) (fun p50 => (kv_ite (kv_some ⟨rfl, rfl, rfl, rfl⟩) (kv_st ⟨rfl, rfl, rfl, rfl⟩ (kr_f_X12_trying_417 N p50.2 x1))))) (kv_ite (kv_bind (kr_st ⟨rfl, rfl, rfl, rfl⟩ (kr_f_X12_can N σ 0)) (fun p56 => (kv_ite (kv_some ⟨rfl, rfl, rfl, rfl⟩) (kv_st ⟨rfl, rfl, rfl, rfl⟩ (kr_f_X12_trying_417 N p56.2 x1))))) (kv_bind (kr_st ⟨rfl, rfl, rfl, rfl⟩ (kr_f_X12_can N σ 1)) (fun p59 => (kv_ite (kv_some ⟨rfl, rfl, rfl, rfl⟩) (kv_st ⟨rfl, rfl, rfl, rfl⟩ (kr_f_X12_trying_417 N p59.2 x1))))))))) (kv_ite (kv_ite (kv_ite (kv_st ⟨rfl, rfl, rfl, rfl⟩ (kr_f_X12_trying_464 N (RS.setA σ 68 ((x1 : Int32).toNatClampNeg) 1) x1)) (kv_st ⟨rfl, rfl, rfl, rfl⟩ (kr_f_X12_trying_464 N (RS.setA σ 68 ((x1 : Int32).toNatClampNeg) 0) x1))) (kv_st ⟨rfl, rfl, rfl, rfl⟩ (kr_f_X12_trying_464 N (RS.setA σ 68 ((x1 : Int32).toNatClampNeg) 1) x1))) (kv_bind (kr_st ⟨rfl, rfl, rfl, rfl⟩ (kr_f_X12_emit N σ 35 (σ.a 66 ((x1 : Int32).toNatClampNeg)))) (fun p75 => (kv_bindv (kv_st ⟨rfl, rfl, rfl, rfl⟩ (kr_f_X12_endTry N p75.2 x1 (p75.2.i 75))) (fun p77 => (kv_some ⟨rfl, rfl, rfl, rfl⟩))))))))) kv_none)
theorem kr_f_X12_sums_39 (N : Nat) (σ : RS) (x1 : Int32) (x2 : Int32) (x3 : Int32) : KV σ (f_X12_sums_39 N σ x1 x2 x3) := by
  unfold f_X12_sums_39
  exact (kv_ite (kv_some ⟨rfl, rfl, rfl, rfl⟩) (kv_ite (kv_bindv (kv_st ⟨rfl, rfl, rfl, rfl⟩ (kr_f_X12_next N (RS.setA σ 66 ((x1 : Int32).toNatClampNeg) (σ.i 10)))) (fun p6 => (kv_bindv (kv_st ⟨rfl, rfl, rfl, rfl⟩ (kr_f_X12_then N p6 2 x2)) (fun p8 => (kv_some ⟨rfl, rfl, rfl, rfl⟩))))) kv_none))
theorem kr_f_X12_sums (N : Nat) (σ : RS) (x1 : Int32) (x2 : Int32) (x3 : Int32) : KV σ (f_X12_sums N σ x1 x2 x3) := by
  unfold f_X12_sums
  exact (kv_ite (kv_ite (kv_bindv (kv_st ⟨rfl, rfl, rfl, rfl⟩ (kr_f_X12_then N σ 1 x2)) (fun p12 => (kv_some ⟨rfl, rfl, rfl, rfl⟩))) (kv_ite (kv_bind (kr_st ⟨rfl, rfl, rfl, rfl⟩ (kr_f_X12_emit N σ 8 (σ.a 66 ((x1 : Int32).toNatClampNeg)))) (fun p10 => (kv_st ⟨rfl, rfl, rfl, rfl⟩ (kr_f_X12_sums_39 N p10.2 x1 x2 x3)))) (kv_st ⟨rfl, rfl, rfl, rfl⟩ (kr_f_X12_sums_39 N σ x1 x2 x3)))) kv_none)
theorem kr_f_X12_factor_215 (N : Nat) (σ : RS) : KV σ (f_X12_factor_215 N σ) := by
  unfold f_X12_factor_215
  exact (kv_bindv (kv_st ⟨rfl, rfl, rfl, rfl⟩ (kr_f_X12_next N σ)) (fun p31 => (kv_some ⟨rfl, rfl, rfl, rfl⟩)))
theorem kr_f_X12_factor_124 (N : Nat) (σ : RS) (x1 : Int32) : KV σ (f_X12_factor_124 N σ x1) := by
  unfold f_X12_factor_124
  exact (kv_ite (kv_bind (kr_st ⟨rfl, rfl, rfl, rfl⟩ (kr_f_X12_emit N σ 2 (σ.i 14))) (fun p37 => (kv_bindv (kv_st ⟨rfl, rfl, rfl, rfl⟩ (kr_f_X12_next N p37.2)) (fun p39 => (kv_some ⟨rfl, rfl, rfl, rfl⟩))))) (kv_ite (kv_bind (kr_st ⟨rfl, rfl, rfl, rfl⟩ (kr_f_X12_seenAs N σ σ.l)) (fun p24 => (kv_ite (kv_ite (kv_ite (kv_bind (kr_st ⟨rfl, rfl, rfl, rfl⟩ (kr_f_X12_emit N p24.2 3 (p24.2.a 40 ((p24.1 : Int32).toNatClampNeg)))) (fun p29 => (kv_st ⟨rfl, rfl, rfl, rfl⟩ (kr_f_X12_factor_215 N p29.2)))) (kv_bind (kr_st ⟨rfl, rfl, rfl, rfl⟩ (kr_f_X12_emit N p24.2 4 (p24.2.a 40 ((p24.1 : Int32).toNatClampNeg)))) (fun p33 => (kv_st ⟨rfl, rfl, rfl, rfl⟩ (kr_f_X12_factor_215 N p33.2))))) kv_none) (kv_bindv (kv_st ⟨rfl, rfl, rfl, rfl⟩ (kr_f_X12_fail N p24.2 3 (p24.2.i 11))) (fun p35 => (kv_some ⟨rfl, rfl, rfl, rfl⟩)))))) (kv_ite (kv_bind (kr_st ⟨rfl, rfl, rfl, rfl⟩ (kr_f_X12_opens N σ)) (fun p17 => (kv_ite (kv_some ⟨rfl, rfl, rfl, rfl⟩) (kv_bindv (kv_st ⟨rfl, rfl, rfl, rfl⟩ (kr_f_X12_next N p17.2)) (fun p20 => (kv_bindv (kv_st ⟨rfl, rfl, rfl, rfl⟩ (kr_f_X12_then N p20 1 18)) (fun p22 => (kv_some ⟨rfl, rfl, rfl, rfl⟩)))))))) (kv_ite (kv_bind (kr_st ⟨rfl, rfl, rfl, rfl⟩ (kr_f_X12_open N σ 40)) (fun p13 => (kv_bindv (kv_st ⟨rfl, rfl, rfl, rfl⟩ (kr_f_X12_then N p13.2 2 16)) (fun p15 => (kv_some ⟨rfl, rfl, rfl, rfl⟩))))) (kv_ite (kv_some ⟨rfl, rfl, rfl, rfl⟩) kv_none)))))
theorem kr_f_X12_factor (N : Nat) (σ : RS) (x1 : Int32) : KV σ (f_X12_factor N σ x1) := by
  unfold f_X12_factor
  exact (kv_ite (kv_ite (kv_bind (kr_st ⟨rfl, rfl, rfl, rfl⟩ (kr_f_X12_emit N (RS.setI σ 19 ((σ.i 19) - 1)) 7 0)) (fun p62 => (kv_some ⟨rfl, rfl, rfl, rfl⟩))) (kv_ite (kv_bind (kr_st ⟨rfl, rfl, rfl, rfl⟩ (kr_f_X12_shut N σ 41)) (fun p60 => (kv_some ⟨rfl, rfl, rfl, rfl⟩))) (kv_ite (kv_bind (kr_st ⟨rfl, rfl, rfl, rfl⟩ (kr_f_X12_can N σ 1)) (fun p5 => (kv_ite (kv_some ⟨rfl, rfl, rfl, rfl⟩) (kv_st ⟨rfl, rfl, rfl, rfl⟩ (kr_f_X12_factor_124 N p5.2 x1))))) (kv_ite (kv_bind (kr_st ⟨rfl, rfl, rfl, rfl⟩ (kr_f_X12_can N σ 1)) (fun p42 => (kv_ite (kv_some ⟨rfl, rfl, rfl, rfl⟩) (kv_st ⟨rfl, rfl, rfl, rfl⟩ (kr_f_X12_factor_124 N p42.2 x1))))) (kv_ite (kv_bind (kr_st ⟨rfl, rfl, rfl, rfl⟩ (kr_f_X12_can N σ 1)) (fun p46 => (kv_ite (kv_some ⟨rfl, rfl, rfl, rfl⟩) (kv_st ⟨rfl, rfl, rfl, rfl⟩ (kr_f_X12_factor_124 N p46.2 x1))))) (kv_ite (kv_bind (kr_st ⟨rfl, rfl, rfl, rfl⟩ (kr_f_X12_can N σ 1)) (fun p50 => (kv_ite (kv_some ⟨rfl, rfl, rfl, rfl⟩) (kv_st ⟨rfl, rfl, rfl, rfl⟩ (kr_f_X12_factor_124 N p50.2 x1))))) (kv_ite (kv_bind (kr_st ⟨rfl, rfl, rfl, rfl⟩ (kr_f_X12_can N σ 1)) (fun p57 => (kv_ite (kv_some ⟨rfl, rfl, rfl, rfl⟩) (kv_st ⟨rfl, rfl, rfl, rfl⟩ (kr_f_X12_factor_124 N p57.2 x1))))) (kv_bind (kr_st ⟨rfl, rfl, rfl, rfl⟩ (kr_f_X12_can N σ 0)) (fun p54 => (kv_ite (kv_some ⟨rfl, rfl, rfl, rfl⟩) (kv_st ⟨rfl, rfl, rfl, rfl⟩ (kr_f_X12_factor_124 N p54.2 x1)))))))))))) kv_none)
theorem kr_f_X12_arms_250 (N : Nat) (σ : RS) (x1 : Int32) : KV σ (f_X12_arms_250 N σ x1) := by
  unfold f_X12_arms_250
  exact (kv_bind (kr_st ⟨rfl, rfl, rfl, rfl⟩ (kr_f_X12_shut N σ 125)) (fun p25 => (kv_ite (kv_ite (kv_some ⟨rfl, rfl, rfl, rfl⟩) kv_none) kv_none)))
theorem kr_f_X12_arms_333 (N : Nat) (σ : RS) : KV σ (f_X12_arms_333 N σ) := by
  unfold f_X12_arms_333
  exact (kv_ite (kv_bindv (kv_st ⟨rfl, rfl, rfl, rfl⟩ (kr_f_X12_next N σ)) (fun p51 => (kv_some ⟨rfl, rfl, rfl, rfl⟩))) (kv_some ⟨rfl, rfl, rfl, rfl⟩))
theorem kr_f_X12_arms_400 (N : Nat) (σ : RS) : KV σ (f_X12_arms_400 N σ) := by
  unfold f_X12_arms_400
  exact (kv_bindv (kv_st ⟨rfl, rfl, rfl, rfl⟩ (kr_f_X12_then N σ 7 16)) (fun p62 => (kv_some ⟨rfl, rfl, rfl, rfl⟩)))
theorem kr_f_X12_arms_435 (N : Nat) (σ : RS) (x1 : Int32) : KV σ (f_X12_arms_435 N σ x1) := by
  unfold f_X12_arms_435
  exact (kv_bind (kr_st ⟨rfl, rfl, rfl, rfl⟩ (kr_f_X12_shut N σ 125)) (fun p71 => (kv_ite (kv_some ⟨rfl, rfl, rfl, rfl⟩) kv_none)))
theorem kr_f_X12_arms (N : Nat) (σ : RS) (x1 : Int32) : KV σ (f_X12_arms N σ x1) := by
  unfold f_X12_arms
  exact (kv_ite (kv_ite (kv_bindv (kv_st ⟨rfl, rfl, rfl, rfl⟩ (kr_f_X12_next N σ)) (fun p3 => (kv_bind (kr_st ⟨rfl, rfl, rfl, rfl⟩ (kr_f_X12_open N p3 40)) (fun p5 => (kv_bindv (kv_st ⟨rfl, rfl, rfl, rfl⟩ (kr_f_X12_then N p5.2 1 16)) (fun p7 => (kv_some ⟨rfl, rfl, rfl, rfl⟩))))))) (kv_ite (kv_bind (kr_st ⟨rfl, rfl, rfl, rfl⟩ (kr_f_X12_shut N σ 41)) (fun p10 => (kv_bind (kr_st ⟨rfl, rfl, rfl, rfl⟩ (kr_f_X12_emit N p10.2 29 (-1))) (fun p12 => (kv_bind (kr_st ⟨rfl, rfl, rfl, rfl⟩ (kr_f_X12_goal N (RS.setI (RS.setA (RS.setA (RS.setA p12.2 66 ((x1 : Int32).toNatClampNeg) p12.1) 67 ((x1 : Int32).toNatClampNeg) (-1)) 68 ((x1 : Int32).toNatClampNeg) 0) 52 ((p12.2.i 52) + 1)) 3 0)) (fun p14 => (kv_bind (kr_st ⟨rfl, rfl, rfl, rfl⟩ (kr_f_X12_open N p14.2 123)) (fun p16 => (kv_some ⟨rfl, rfl, rfl, rfl⟩))))))))) (kv_ite (kv_ite (kv_bindv (kv_st ⟨rfl, rfl, rfl, rfl⟩ (kr_f_X12_next N σ)) (fun p43 => (kv_some ⟨rfl, rfl, rfl, rfl⟩))) (kv_ite (kv_ite (kv_bindv (kv_st ⟨rfl, rfl, rfl, rfl⟩ (kr_f_X12_fail N σ 4 (σ.i 11))) (fun p41 => (kv_some ⟨rfl, rfl, rfl, rfl⟩))) (kv_bindv (kv_st ⟨rfl, rfl, rfl, rfl⟩ (kr_f_X12_entry N (RS.setA σ 68 ((x1 : Int32).toNatClampNeg) 1) x1 0 1)) (fun p37 => (kv_bindv (kv_st ⟨rfl, rfl, rfl, rfl⟩ (kr_f_X12_next N p37)) (fun p39 => (kv_some ⟨rfl, rfl, rfl, rfl⟩)))))) (kv_ite (kv_ite (kv_bind (kr_st ⟨rfl, rfl, rfl, rfl⟩ (kr_f_X12_can N σ 1)) (fun p33 => (kv_ite (kv_some ⟨rfl, rfl, rfl, rfl⟩) (kv_st ⟨rfl, rfl, rfl, rfl⟩ (kr_f_X12_arms_250 N p33.2 x1))))) (kv_bind (kr_st ⟨rfl, rfl, rfl, rfl⟩ (kr_f_X12_can N σ 0)) (fun p30 => (kv_ite (kv_some ⟨rfl, rfl, rfl, rfl⟩) (kv_st ⟨rfl, rfl, rfl, rfl⟩ (kr_f_X12_arms_250 N p30.2 x1)))))) (kv_bind (kr_st ⟨rfl, rfl, rfl, rfl⟩ (kr_f_X12_can N σ 0)) (fun p22 => (kv_ite (kv_some ⟨rfl, rfl, rfl, rfl⟩) (kv_st ⟨rfl, rfl, rfl, rfl⟩ (kr_f_X12_arms_250 N p22.2 x1)))))))) (kv_ite (kv_bind (kr_st ⟨rfl, rfl, rfl, rfl⟩ (kr_f_X12_caseNumber N σ x1)) (fun p46 => (kv_ite (kv_some ⟨rfl, rfl, rfl, rfl⟩) (kv_ite (kv_st ⟨rfl, rfl, rfl, rfl⟩ (kr_f_X12_arms_333 N (RS.setA p46.2 65 ((x1 : Int32).toNatClampNeg) 3))) (kv_st ⟨rfl, rfl, rfl, rfl⟩ (kr_f_X12_arms_333 N (RS.setA p46.2 65 ((x1 : Int32).toNatClampNeg) 5))))))) (kv_ite (kv_bind (kr_st ⟨rfl, rfl, rfl, rfl⟩ (kr_f_X12_need N σ 59)) (fun p54 => (kv_bind (kr_st ⟨rfl, rfl, rfl, rfl⟩ (kr_f_X12_emit N p54.2 30 0)) (fun p56 => (kv_some ⟨rfl, rfl, rfl, rfl⟩))))) (kv_ite (kv_bind (kr_st ⟨rfl, rfl, rfl, rfl⟩ (kr_f_X12_need N σ 306)) (fun p59 => (kv_ite (kv_ite (kv_bind (kr_st ⟨rfl, rfl, rfl, rfl⟩ (kr_f_X12_open N p59.2 123)) (fun p65 => (kv_bindv (kv_st ⟨rfl, rfl, rfl, rfl⟩ (kr_f_X12_then N (RS.setA p65.2 71 ((x1 : Int32).toNatClampNeg) (p65.2.i 38)) 6 1)) (fun p67 => (kv_some ⟨rfl, rfl, rfl, rfl⟩))))) (kv_st ⟨rfl, rfl, rfl, rfl⟩ (kr_f_X12_arms_400 N p59.2))) (kv_st ⟨rfl, rfl, rfl, rfl⟩ (kr_f_X12_arms_400 N p59.2))))) (kv_ite (kv_ite (kv_st ⟨rfl, rfl, rfl, rfl⟩ (kr_f_X12_arms_435 N σ x1)) (kv_ite (kv_bindv (kv_st ⟨rfl, rfl, rfl, rfl⟩ (kr_f_X12_note N σ (σ.i 11))) (fun p75 => (kv_st ⟨rfl, rfl, rfl, rfl⟩ (kr_f_X12_arms_435 N p75 x1)))) (kv_st ⟨rfl, rfl, rfl, rfl⟩ (kr_f_X12_arms_435 N σ x1)))) (kv_bind (kr_st ⟨rfl, rfl, rfl, rfl⟩ (kr_f_X12_need N σ 59)) (fun p77 => (kv_bind (kr_st ⟨rfl, rfl, rfl, rfl⟩ (kr_f_X12_emit N p77.2 30 0)) (fun p79 => (kv_some ⟨rfl, rfl, rfl, rfl⟩)))))))))))) kv_none)
theorem kr_f_X12_both_41 (N : Nat) (σ : RS) (x1 : Int32) (x2 : Int32) (x3 : Int32) (x4 : Int32) : KV σ (f_X12_both_41 N σ x1 x2 x3 x4) := by
  unfold f_X12_both_41
  exact (kv_ite (kv_bindv (kv_st ⟨rfl, rfl, rfl, rfl⟩ (kr_f_X12_next N σ)) (fun p5 => (kv_bind (kr_st ⟨rfl, rfl, rfl, rfl⟩ (kr_f_X12_emit N p5 x4 0)) (fun p7 => (kv_ite (kv_bindv (kv_st ⟨rfl, rfl, rfl, rfl⟩ (kr_f_X12_then N (RS.setA p7.2 66 ((x1 : Int32).toNatClampNeg) p7.1) 2 x2)) (fun p10 => (kv_some ⟨rfl, rfl, rfl, rfl⟩))) kv_none))))) (kv_some ⟨rfl, rfl, rfl, rfl⟩))
theorem kr_f_X12_both (N : Nat) (σ : RS) (x1 : Int32) (x2 : Int32) (x3 : Int32) (x4 : Int32) : KV σ (f_X12_both N σ x1 x2 x3 x4) := by
  unfold f_X12_both
  exact (kv_ite (kv_ite (kv_bindv (kv_st ⟨rfl, rfl, rfl, rfl⟩ (kr_f_X12_then N σ 1 x2)) (fun p13 => (kv_some ⟨rfl, rfl, rfl, rfl⟩))) (kv_ite (kv_ite (kv_st ⟨rfl, rfl, rfl, rfl⟩ (kr_f_X12_both_41 N (RS.setA σ 22 (((σ.a 66 ((x1 : Int32).toNatClampNeg)) : Int32).toNatClampNeg) (σ.i 20)) x1 x2 x3 x4)) kv_none) (kv_st ⟨rfl, rfl, rfl, rfl⟩ (kr_f_X12_both_41 N σ x1 x2 x3 x4)))) kv_none)
theorem kr_f_X12_one_133 (N : Nat) (σ : RS) : KV σ (f_X12_one_133 N σ) := by
  unfold f_X12_one_133
  exact (kv_bindv (kv_st ⟨rfl, rfl, rfl, rfl⟩ (kr_f_X12_next N σ)) (fun p9 => (kv_some ⟨rfl, rfl, rfl, rfl⟩)))
theorem kr_f_X12_one_112 (N : Nat) (σ : RS) : KV σ (f_X12_one_112 N σ) := by
  unfold f_X12_one_112
  exact (kv_ite (kv_bind (kr_st ⟨rfl, rfl, rfl, rfl⟩ (kr_f_X12_emit N σ 2 1)) (fun p11 => (kv_st ⟨rfl, rfl, rfl, rfl⟩ (kr_f_X12_one_133 N p11.2)))) (kv_bind (kr_st ⟨rfl, rfl, rfl, rfl⟩ (kr_f_X12_emit N σ 2 0)) (fun p7 => (kv_st ⟨rfl, rfl, rfl, rfl⟩ (kr_f_X12_one_133 N p7.2)))))
theorem kr_f_X12_one_281 (N : Nat) (σ : RS) (x1 : Int32) : KV σ (f_X12_one_281 N σ x1) := by
  unfold f_X12_one_281
  exact (kv_ite (kv_bindv (kv_st ⟨rfl, rfl, rfl, rfl⟩ (kr_f_X12_next N (RS.setA σ 66 ((x1 : Int32).toNatClampNeg) (σ.i 10)))) (fun p39 => (kv_bindv (kv_st ⟨rfl, rfl, rfl, rfl⟩ (kr_f_X12_then N p39 4 16)) (fun p41 => (kv_some ⟨rfl, rfl, rfl, rfl⟩))))) kv_none)
theorem kr_f_X12_one (N : Nat) (σ : RS) (x1 : Int32) : KV σ (f_X12_one N σ x1) := by
  unfold f_X12_one
  exact (kv_ite (kv_ite (kv_ite (kv_bind (kr_st ⟨rfl, rfl, rfl, rfl⟩ (kr_f_X12_opens N σ)) (fun p20 => (kv_ite (kv_some ⟨rfl, rfl, rfl, rfl⟩) (kv_bindv (kv_st ⟨rfl, rfl, rfl, rfl⟩ (kr_f_X12_next N p20.2)) (fun p23 => (kv_bindv (kv_st ⟨rfl, rfl, rfl, rfl⟩ (kr_f_X12_then N p23 1 22)) (fun p25 => (kv_some ⟨rfl, rfl, rfl, rfl⟩)))))))) (kv_ite (kv_bind (kr_st ⟨rfl, rfl, rfl, rfl⟩ (kr_f_X12_open N σ 91)) (fun p16 => (kv_bindv (kv_st ⟨rfl, rfl, rfl, rfl⟩ (kr_f_X12_then N p16.2 2 20)) (fun p18 => (kv_some ⟨rfl, rfl, rfl, rfl⟩))))) (kv_ite (kv_st ⟨rfl, rfl, rfl, rfl⟩ (kr_f_X12_one_112 N σ)) (kv_ite (kv_st ⟨rfl, rfl, rfl, rfl⟩ (kr_f_X12_one_112 N σ)) (kv_bindv (kv_st ⟨rfl, rfl, rfl, rfl⟩ (kr_f_X12_then N σ 3 16)) (fun p14 => (kv_some ⟨rfl, rfl, rfl, rfl⟩))))))) (kv_ite (kv_bind (kr_st ⟨rfl, rfl, rfl, rfl⟩ (kr_f_X12_emit N (RS.setI σ 19 ((σ.i 19) - 1)) 10 0)) (fun p28 => (kv_some ⟨rfl, rfl, rfl, rfl⟩))) (kv_ite (kv_bind (kr_st ⟨rfl, rfl, rfl, rfl⟩ (kr_f_X12_shut N σ 93)) (fun p31 => (kv_some ⟨rfl, rfl, rfl, rfl⟩))) (kv_ite (kv_ite (kv_bind (kr_st ⟨rfl, rfl, rfl, rfl⟩ (kr_f_X12_can N σ 1)) (fun p35 => (kv_ite (kv_some ⟨rfl, rfl, rfl, rfl⟩) (kv_st ⟨rfl, rfl, rfl, rfl⟩ (kr_f_X12_one_281 N p35.2 x1))))) (kv_ite (kv_bind (kr_st ⟨rfl, rfl, rfl, rfl⟩ (kr_f_X12_can N σ 1)) (fun p44 => (kv_ite (kv_some ⟨rfl, rfl, rfl, rfl⟩) (kv_st ⟨rfl, rfl, rfl, rfl⟩ (kr_f_X12_one_281 N p44.2 x1))))) (kv_ite (kv_bind (kr_st ⟨rfl, rfl, rfl, rfl⟩ (kr_f_X12_can N σ 1)) (fun p48 => (kv_ite (kv_some ⟨rfl, rfl, rfl, rfl⟩) (kv_st ⟨rfl, rfl, rfl, rfl⟩ (kr_f_X12_one_281 N p48.2 x1))))) (kv_ite (kv_bind (kr_st ⟨rfl, rfl, rfl, rfl⟩ (kr_f_X12_can N σ 1)) (fun p52 => (kv_ite (kv_some ⟨rfl, rfl, rfl, rfl⟩) (kv_st ⟨rfl, rfl, rfl, rfl⟩ (kr_f_X12_one_281 N p52.2 x1))))) (kv_ite (kv_bind (kr_st ⟨rfl, rfl, rfl, rfl⟩ (kr_f_X12_can N σ 1)) (fun p56 => (kv_ite (kv_some ⟨rfl, rfl, rfl, rfl⟩) (kv_st ⟨rfl, rfl, rfl, rfl⟩ (kr_f_X12_one_281 N p56.2 x1))))) (kv_ite (kv_bind (kr_st ⟨rfl, rfl, rfl, rfl⟩ (kr_f_X12_can N σ 1)) (fun p63 => (kv_ite (kv_some ⟨rfl, rfl, rfl, rfl⟩) (kv_st ⟨rfl, rfl, rfl, rfl⟩ (kr_f_X12_one_281 N p63.2 x1))))) (kv_bind (kr_st ⟨rfl, rfl, rfl, rfl⟩ (kr_f_X12_can N σ 0)) (fun p60 => (kv_ite (kv_some ⟨rfl, rfl, rfl, rfl⟩) (kv_st ⟨rfl, rfl, rfl, rfl⟩ (kr_f_X12_one_281 N p60.2 x1))))))))))) (kv_bind (kr_st ⟨rfl, rfl, rfl, rfl⟩ (kr_f_X12_emit N σ 9 (σ.a 66 ((x1 : Int32).toNatClampNeg)))) (fun p66 => (kv_some ⟨rfl, rfl, rfl, rfl⟩))))))) kv_none)
theorem kr_f_X12_thing_74 (N : Nat) (σ : RS) : KV σ (f_X12_thing_74 N σ) := by
  unfold f_X12_thing_74
  exact (kv_some ⟨rfl, rfl, rfl, rfl⟩)
theorem kr_f_X12_thing_116 (N : Nat) (σ : RS) : KV σ (f_X12_thing_116 N σ) := by
  unfold f_X12_thing_116
  exact (kv_some ⟨rfl, rfl, rfl, rfl⟩)
theorem kr_f_X12_thing (N : Nat) (σ : RS) (x1 : Int32) : KV σ (f_X12_thing N σ x1) := by
  unfold f_X12_thing
  exact (kv_ite (kv_ite (kv_ite (kv_bindv (kv_st ⟨rfl, rfl, rfl, rfl⟩ (kr_f_X12_sums N σ x1 17 1)) (fun p4 => (kv_st ⟨rfl, rfl, rfl, rfl⟩ (kr_f_X12_thing_74 N p4)))) (kv_ite (kv_bindv (kv_st ⟨rfl, rfl, rfl, rfl⟩ (kr_f_X12_sums N σ x1 17 1)) (fun p9 => (kv_st ⟨rfl, rfl, rfl, rfl⟩ (kr_f_X12_thing_74 N p9)))) (kv_bindv (kv_st ⟨rfl, rfl, rfl, rfl⟩ (kr_f_X12_sums N σ x1 17 0)) (fun p7 => (kv_st ⟨rfl, rfl, rfl, rfl⟩ (kr_f_X12_thing_74 N p7)))))) (kv_ite (kv_ite (kv_bindv (kv_st ⟨rfl, rfl, rfl, rfl⟩ (kr_f_X12_sums N σ x1 18 1)) (fun p13 => (kv_st ⟨rfl, rfl, rfl, rfl⟩ (kr_f_X12_thing_116 N p13)))) (kv_ite (kv_bindv (kv_st ⟨rfl, rfl, rfl, rfl⟩ (kr_f_X12_sums N σ x1 18 1)) (fun p16 => (kv_st ⟨rfl, rfl, rfl, rfl⟩ (kr_f_X12_thing_116 N p16)))) (kv_ite (kv_bindv (kv_st ⟨rfl, rfl, rfl, rfl⟩ (kr_f_X12_sums N σ x1 18 1)) (fun p21 => (kv_st ⟨rfl, rfl, rfl, rfl⟩ (kr_f_X12_thing_116 N p21)))) (kv_bindv (kv_st ⟨rfl, rfl, rfl, rfl⟩ (kr_f_X12_sums N σ x1 18 0)) (fun p19 => (kv_st ⟨rfl, rfl, rfl, rfl⟩ (kr_f_X12_thing_116 N p19))))))) (kv_ite (kv_bindv (kv_st ⟨rfl, rfl, rfl, rfl⟩ (kr_f_X12_factor N σ x1)) (fun p24 => (kv_some ⟨rfl, rfl, rfl, rfl⟩))) (kv_ite (kv_bindv (kv_st ⟨rfl, rfl, rfl, rfl⟩ (kr_f_X12_arms N σ x1)) (fun p27 => (kv_some ⟨rfl, rfl, rfl, rfl⟩))) (kv_ite (kv_bindv (kv_st ⟨rfl, rfl, rfl, rfl⟩ (kr_f_X12_both N σ x1 21 305 11)) (fun p30 => (kv_some ⟨rfl, rfl, rfl, rfl⟩))) (kv_ite (kv_bindv (kv_st ⟨rfl, rfl, rfl, rfl⟩ (kr_f_X12_both N σ x1 22 304 12)) (fun p33 => (kv_some ⟨rfl, rfl, rfl, rfl⟩))) (kv_bindv (kv_st ⟨rfl, rfl, rfl, rfl⟩ (kr_f_X12_one N σ x1)) (fun p35 => (kv_some ⟨rfl, rfl, rfl, rfl⟩))))))))) kv_none)
theorem kr_b_X12_parse_10 (N : Nat) (K : RS → Option (RS)) (hK : ∀ (σ : RS), KV σ (K σ)) (σ : RS) : KV σ (b_X12_parse_10 N K σ) := by
  unfold b_X12_parse_10
  exact (kv_ite (kv_some ⟨rfl, rfl, rfl, rfl⟩) (kv_ite (kv_ite (kv_ite (kv_bindv (kv_st ⟨rfl, rfl, rfl, rfl⟩ (kr_f_X12_list N σ (σ.i 63))) (fun p7 => (kv_st ⟨rfl, rfl, rfl, rfl⟩ (hK p7)))) (kv_ite (kv_bindv (kv_st ⟨rfl, rfl, rfl, rfl⟩ (kr_f_X12_stat N σ (σ.i 63))) (fun p10 => (kv_st ⟨rfl, rfl, rfl, rfl⟩ (hK p10)))) (kv_ite (kv_bindv (kv_st ⟨rfl, rfl, rfl, rfl⟩ (kr_f_X12_block N σ (σ.i 63))) (fun p13 => (kv_st ⟨rfl, rfl, rfl, rfl⟩ (hK p13)))) (kv_ite (kv_bindv (kv_st ⟨rfl, rfl, rfl, rfl⟩ (kr_f_X12_tell N σ (σ.i 63))) (fun p16 => (kv_st ⟨rfl, rfl, rfl, rfl⟩ (hK p16)))) (kv_ite (kv_bindv (kv_st ⟨rfl, rfl, rfl, rfl⟩ (kr_f_X12_named N σ (σ.i 63))) (fun p19 => (kv_st ⟨rfl, rfl, rfl, rfl⟩ (hK p19)))) (kv_ite (kv_bindv (kv_st ⟨rfl, rfl, rfl, rfl⟩ (kr_f_X12_ending N σ (σ.i 63))) (fun p22 => (kv_st ⟨rfl, rfl, rfl, rfl⟩ (hK p22)))) (kv_ite (kv_bindv (kv_st ⟨rfl, rfl, rfl, rfl⟩ (kr_f_X12_throwing N σ (σ.i 63))) (fun p25 => (kv_st ⟨rfl, rfl, rfl, rfl⟩ (hK p25)))) (kv_ite (kv_bindv (kv_st ⟨rfl, rfl, rfl, rfl⟩ (kr_f_X12_asserted N σ (σ.i 63))) (fun p28 => (kv_st ⟨rfl, rfl, rfl, rfl⟩ (hK p28)))) (kv_ite (kv_bindv (kv_st ⟨rfl, rfl, rfl, rfl⟩ (kr_f_X12_branch N σ (σ.i 63))) (fun p31 => (kv_st ⟨rfl, rfl, rfl, rfl⟩ (hK p31)))) (kv_ite (kv_bindv (kv_st ⟨rfl, rfl, rfl, rfl⟩ (kr_f_X12_whiles N σ (σ.i 63))) (fun p34 => (kv_st ⟨rfl, rfl, rfl, rfl⟩ (hK p34)))) (kv_ite (kv_bindv (kv_st ⟨rfl, rfl, rfl, rfl⟩ (kr_f_X12_repeats N σ (σ.i 63))) (fun p37 => (kv_st ⟨rfl, rfl, rfl, rfl⟩ (hK p37)))) (kv_ite (kv_bindv (kv_st ⟨rfl, rfl, rfl, rfl⟩ (kr_f_X12_fors N σ (σ.i 63))) (fun p40 => (kv_st ⟨rfl, rfl, rfl, rfl⟩ (hK p40)))) (kv_ite (kv_bindv (kv_st ⟨rfl, rfl, rfl, rfl⟩ (kr_f_X12_lock N σ (σ.i 63))) (fun p43 => (kv_st ⟨rfl, rfl, rfl, rfl⟩ (hK p43)))) (kv_ite (kv_bindv (kv_st ⟨rfl, rfl, rfl, rfl⟩ (kr_f_X12_groups N σ (σ.i 63))) (fun p46 => (kv_st ⟨rfl, rfl, rfl, rfl⟩ (hK p46)))) (kv_ite (kv_bindv (kv_st ⟨rfl, rfl, rfl, rfl⟩ (kr_f_X12_trying N σ (σ.i 63))) (fun p49 => (kv_st ⟨rfl, rfl, rfl, rfl⟩ (hK p49)))) (kv_bindv (kv_st ⟨rfl, rfl, rfl, rfl⟩ (kr_f_X12_thing N σ (σ.i 63))) (fun p51 => (kv_st ⟨rfl, rfl, rfl, rfl⟩ (hK p51))))))))))))))))))) kv_none) (kv_some ⟨rfl, rfl, rfl, rfl⟩)))
theorem kr_f_X12_parse_10 (N : Nat) : ∀ (n : Nat) (σ : RS), KV σ (f_X12_parse_10 N n σ )
  | 0, _ => kv_none
  | n+1, σ => kr_b_X12_parse_10 N (f_X12_parse_10 N n) (fun σ => kr_f_X12_parse_10 N n σ) σ
theorem kr_f_X12_parse (N : Nat) (σ : RS) : KV σ (f_X12_parse N σ) := by
  unfold f_X12_parse
  exact (kv_bindv (kv_st ⟨rfl, rfl, rfl, rfl⟩ (kr_f_X12_push N (RS.setI σ 63 (-1)) 1)) (fun p1 => (kv_st ⟨rfl, rfl, rfl, rfl⟩ (kr_f_X12_parse_10 N N p1))))
theorem kr_f_X12_fault (N : Nat) (σ : RS) : KR σ (f_X12_fault N σ) := by
  unfold f_X12_fault
  exact (kr_some ⟨rfl, rfl, rfl, rfl⟩)
theorem kr_f_X12_program (N : Nat) (σ : RS) (x1 : Int32) : KR σ (f_X12_program N σ x1) := by
  unfold f_X12_program
  exact (kr_bind (kr_st ⟨rfl, rfl, rfl, rfl⟩ (kr_f_X12_in N (RS.setI σ 0 0) x1 0 3)) (fun p1 => (kr_ite (kr_some ⟨rfl, rfl, rfl, rfl⟩) (kr_ite (kr_some ⟨rfl, rfl, rfl, rfl⟩) (kr_ite (kr_some ⟨rfl, rfl, rfl, rfl⟩) (kr_ite (kr_ite (kr_some ⟨rfl, rfl, rfl, rfl⟩) (kr_some ⟨rfl, rfl, rfl, rfl⟩)) (kr_ite (kr_some ⟨rfl, rfl, rfl, rfl⟩) (kr_some ⟨rfl, rfl, rfl, rfl⟩))))))))
theorem kr_f_X12_row (N : Nat) (σ : RS) (x1 : Int32) (x2 : Int32) : KV σ (f_X12_row N σ x1 x2) := by
  unfold f_X12_row
  exact (kv_ite (kv_some ⟨rfl, rfl, rfl, rfl⟩) (kv_ite (kv_some ⟨rfl, rfl, rfl, rfl⟩) kv_none))
theorem kr_f_X12_record (N : Nat) (σ : RS) (x1 : Int32) (x2 : Int32) (x3 : Int32) (x4 : Int32) : KR σ (f_X12_record N σ x1 x2 x3 x4) := by
  unfold f_X12_record
  exact (kr_ite (kr_some ⟨rfl, rfl, rfl, rfl⟩) kr_none)
theorem kr_f_X12_put (N : Nat) (σ : RS) (x1 : Int32) : KV σ (f_X12_put N σ x1) := by
  unfold f_X12_put
  exact (kv_ite (kv_some ⟨rfl, rfl, rfl, rfl⟩) kv_none)
theorem kr_f_X12_take (N : Nat) (σ : RS) : KR σ (f_X12_take N σ) := by
  unfold f_X12_take
  exact (kr_ite (kr_some ⟨rfl, rfl, rfl, rfl⟩) kr_none)
theorem kr_f_X12_raise_24 (N : Nat) (σ : RS) (x1 : Int32) (x2 : Int32) : KV σ (f_X12_raise_24 N σ x1 x2) := by
  unfold f_X12_raise_24
  exact (kv_ite (kv_some ⟨rfl, rfl, rfl, rfl⟩) kv_none)
theorem kr_f_X12_raise (N : Nat) (σ : RS) (x1 : Int32) (x2 : Int32) : KV σ (f_X12_raise N σ x1 x2) := by
  unfold f_X12_raise
  exact (kv_ite (kv_st ⟨rfl, rfl, rfl, rfl⟩ (kr_f_X12_raise_24 N (RS.setI σ 114 3199) x1 x2)) (kv_st ⟨rfl, rfl, rfl, rfl⟩ (kr_f_X12_raise_24 N (RS.setI σ 114 (σ.i 85)) x1 x2)))
theorem kr_b_X12_closeAll_0 (N : Nat) (K : RS → Int32 → Option (RS)) (hK : ∀ (σ : RS) (y0 : Int32), KV σ (K σ y0)) (σ : RS) (x1 : Int32) : KV σ (b_X12_closeAll_0 N K σ x1) := by
  unfold b_X12_closeAll_0
  exact (kv_ite (kv_ite (kv_some ⟨rfl, rfl, rfl, rfl⟩) (kv_ite (kv_bindv (kv_st ⟨rfl, rfl, rfl, rfl⟩ (kr_f_X12_row N (RS.setI σ 95 ((σ.i 95) - 1)) 2 (σ.a 96 ((((σ.i 95) - 1) : Int32).toNatClampNeg)))) (fun p4 => (kv_ite (kv_ite (kv_st ⟨rfl, rfl, rfl, rfl⟩ (hK p4 x1)) (kv_ite (kv_ite (kv_ite (kv_st ⟨rfl, rfl, rfl, rfl⟩ (hK p4 x1)) (kv_ite (kv_st ⟨rfl, rfl, rfl, rfl⟩ (hK (RS.setA (RS.setA (RS.setA p4 89 ((((8 * (p4.i 114)) + (p4.a 88 (((p4.i 114) : Int32).toNatClampNeg))) : Int32).toNatClampNeg) ((p4.a 7 (((σ.a 96 ((((σ.i 95) - 1) : Int32).toNatClampNeg)) : Int32).toNatClampNeg)) - 1)) 90 ((((8 * (p4.i 114)) + (p4.a 88 (((p4.i 114) : Int32).toNatClampNeg))) : Int32).toNatClampNeg) (σ.a 96 ((((σ.i 95) - 1) : Int32).toNatClampNeg))) 88 (((p4.i 114) : Int32).toNatClampNeg) ((p4.a 88 (((p4.i 114) : Int32).toNatClampNeg)) + 1)) x1)) kv_none)) kv_none) (kv_bindv (kv_st ⟨rfl, rfl, rfl, rfl⟩ (kr_f_X12_raise N p4 ((p4.a 7 (((σ.a 96 ((((σ.i 95) - 1) : Int32).toNatClampNeg)) : Int32).toNatClampNeg)) - 1) (σ.a 96 ((((σ.i 95) - 1) : Int32).toNatClampNeg)))) (fun p14 => (kv_st ⟨rfl, rfl, rfl, rfl⟩ (hK p14 x1)))))) kv_none))) kv_none)) kv_none)
theorem kr_f_X12_closeAll_0 (N : Nat) : ∀ (n : Nat) (σ : RS) (y0 : Int32), KV σ (f_X12_closeAll_0 N n σ y0)
  | 0, _, _ => kv_none
  | n+1, σ, y0 => kr_b_X12_closeAll_0 N (f_X12_closeAll_0 N n) (fun σ y0 => kr_f_X12_closeAll_0 N n σ y0) σ y0
theorem kr_f_X12_closeAll (N : Nat) (σ : RS) (x1 : Int32) : KV σ (f_X12_closeAll N σ x1) := by
  unfold f_X12_closeAll
  exact (kv_st ⟨rfl, rfl, rfl, rfl⟩ (kr_f_X12_closeAll_0 N N σ x1))
theorem kr_f_X12_finals (N : Nat) (σ : RS) (x1 : Int32) : KR σ (f_X12_finals N σ x1) := by
  unfold f_X12_finals
  exact (kr_ite (kr_ite (kr_ite (kr_some ⟨rfl, rfl, rfl, rfl⟩) (kr_some ⟨rfl, rfl, rfl, rfl⟩)) kr_none) kr_none)
theorem kr_b_X12_isCaught_12 (N : Nat) (K : RS → Int32 → Int32 → Option (Int32 × RS)) (hK : ∀ (σ : RS) (y0 : Int32) (y1 : Int32), KR σ (K σ y0 y1)) (σ : RS) (x1 : Int32) (x2 : Int32) : KR σ (b_X12_isCaught_12 N K σ x1 x2) := by
  unfold b_X12_isCaught_12
  exact (kr_ite (kr_some ⟨rfl, rfl, rfl, rfl⟩) (kr_ite (kr_ite (kr_bind (kr_st ⟨rfl, rfl, rfl, rfl⟩ (kr_f_X12_isUnder N σ (σ.a 86 (((σ.i 114) : Int32).toNatClampNeg)) (σ.a 34 ((x2 : Int32).toNatClampNeg)))) (fun p6 => (kr_ite (kr_st ⟨rfl, rfl, rfl, rfl⟩ (hK p6.2 x1 (p6.2.a 37 ((x2 : Int32).toNatClampNeg)))) (kr_ite (kr_ite (kr_some ⟨rfl, rfl, rfl, rfl⟩) kr_none) kr_none)))) kr_none) kr_none))
theorem kr_f_X12_isCaught_12 (N : Nat) : ∀ (n : Nat) (σ : RS) (y0 : Int32) (y1 : Int32), KR σ (f_X12_isCaught_12 N n σ y0 y1)
  | 0, _, _, _ => kr_none
  | n+1, σ, y0, y1 => kr_b_X12_isCaught_12 N (f_X12_isCaught_12 N n) (fun σ y0 y1 => kr_f_X12_isCaught_12 N n σ y0 y1) σ y0 y1
theorem kr_f_X12_isCaught (N : Nat) (σ : RS) (x1 : Int32) : KR σ (f_X12_isCaught N σ x1) := by
  unfold f_X12_isCaught
  exact (kr_ite (kr_ite (kr_st ⟨rfl, rfl, rfl, rfl⟩ (kr_f_X12_isCaught_12 N N σ x1 (σ.a 30 (((σ.a 101 ((x1 : Int32).toNatClampNeg)) : Int32).toNatClampNeg)))) kr_none) kr_none)
theorem kr_b_X12_leave_0 (N : Nat) (K : RS → Option (RS)) (hK : ∀ (σ : RS), KV σ (K σ)) (σ : RS) : KV σ (b_X12_leave_0 N K σ) := by
  unfold b_X12_leave_0
  exact (kv_ite (kv_ite (kv_some ⟨rfl, rfl, rfl, rfl⟩) (kv_ite (kv_ite (kv_bindv (kv_st ⟨rfl, rfl, rfl, rfl⟩ (kr_f_X12_row N σ 4 (σ.a 101 ((((σ.i 99) - 1) : Int32).toNatClampNeg)))) (fun p27 => (kv_ite (kv_st ⟨rfl, rfl, rfl, rfl⟩ (hK (RS.setI (RS.setA p27 91 (((p27.a 101 ((((σ.i 99) - 1) : Int32).toNatClampNeg)) : Int32).toNatClampNeg) ((p27.a 91 (((p27.a 101 ((((σ.i 99) - 1) : Int32).toNatClampNeg)) : Int32).toNatClampNeg)) - 1)) 99 ((p27.i 99) - 1)))) kv_none))) (kv_ite (kv_st ⟨rfl, rfl, rfl, rfl⟩ (hK (RS.setI (RS.setI σ 97 (σ.a 101 ((((σ.i 99) - 1) : Int32).toNatClampNeg))) 99 ((σ.i 99) - 1)))) (kv_ite (kv_ite (kv_bindv (kv_st ⟨rfl, rfl, rfl, rfl⟩ (kr_f_X12_closeAll N σ ((σ.i 99) - 1))) (fun p13 => (kv_ite (kv_bind (kr_st ⟨rfl, rfl, rfl, rfl⟩ (kr_f_X12_isCaught N p13 ((σ.i 99) - 1))) (fun p20 => (kv_ite (kv_ite (kv_st ⟨rfl, rfl, rfl, rfl⟩ (hK (RS.setI p20.2 99 ((p20.2.i 99) - 1)))) (kv_bind (kr_st ⟨rfl, rfl, rfl, rfl⟩ (kr_f_X12_finals N p20.2 ((σ.i 99) - 1))) (fun p24 => (kv_ite (kv_st ⟨rfl, rfl, rfl, rfl⟩ (hK (RS.setI p24.2 99 ((p24.2.i 99) - 1)))) (kv_some ⟨rfl, rfl, rfl, rfl⟩))))) (kv_some ⟨rfl, rfl, rfl, rfl⟩)))) (kv_ite (kv_st ⟨rfl, rfl, rfl, rfl⟩ (hK (RS.setI p13 99 ((p13.i 99) - 1)))) (kv_bind (kr_st ⟨rfl, rfl, rfl, rfl⟩ (kr_f_X12_finals N p13 ((σ.i 99) - 1))) (fun p17 => (kv_ite (kv_st ⟨rfl, rfl, rfl, rfl⟩ (hK (RS.setI p17.2 99 ((p17.2.i 99) - 1)))) (kv_some ⟨rfl, rfl, rfl, rfl⟩)))))))) (kv_ite (kv_st ⟨rfl, rfl, rfl, rfl⟩ (hK (RS.setI σ 99 ((σ.i 99) - 1)))) (kv_bind (kr_st ⟨rfl, rfl, rfl, rfl⟩ (kr_f_X12_finals N σ ((σ.i 99) - 1))) (fun p10 => (kv_ite (kv_st ⟨rfl, rfl, rfl, rfl⟩ (hK (RS.setI p10.2 99 ((p10.2.i 99) - 1)))) (kv_some ⟨rfl, rfl, rfl, rfl⟩)))))) (kv_st ⟨rfl, rfl, rfl, rfl⟩ (hK (RS.setI σ 99 ((σ.i 99) - 1))))))) kv_none)) (kv_ite (kv_ite (kv_ite (kv_bindv (kv_st ⟨rfl, rfl, rfl, rfl⟩ (kr_f_X12_put N (RS.setI (RS.setI σ 99 ((σ.i 99) - 1)) 93 (σ.a 104 ((((σ.i 99) - 1) : Int32).toNatClampNeg))) (σ.i 113))) (fun p64 => (kv_ite (kv_ite (kv_some ⟨rfl, rfl, rfl, rfl⟩) kv_none) kv_none))) kv_none) (kv_ite (kv_ite (kv_bindv (kv_st ⟨rfl, rfl, rfl, rfl⟩ (kr_f_X12_row N σ 4 (σ.a 101 ((((σ.i 99) - 1) : Int32).toNatClampNeg)))) (fun p91 => (kv_ite (kv_st ⟨rfl, rfl, rfl, rfl⟩ (hK (RS.setI (RS.setA p91 91 (((p91.a 101 ((((σ.i 99) - 1) : Int32).toNatClampNeg)) : Int32).toNatClampNeg) ((p91.a 91 (((p91.a 101 ((((σ.i 99) - 1) : Int32).toNatClampNeg)) : Int32).toNatClampNeg)) - 1)) 99 ((p91.i 99) - 1)))) kv_none))) (kv_ite (kv_st ⟨rfl, rfl, rfl, rfl⟩ (hK (RS.setI (RS.setI σ 97 (σ.a 101 ((((σ.i 99) - 1) : Int32).toNatClampNeg))) 99 ((σ.i 99) - 1)))) (kv_ite (kv_ite (kv_bindv (kv_st ⟨rfl, rfl, rfl, rfl⟩ (kr_f_X12_closeAll N σ ((σ.i 99) - 1))) (fun p77 => (kv_ite (kv_bind (kr_st ⟨rfl, rfl, rfl, rfl⟩ (kr_f_X12_isCaught N p77 ((σ.i 99) - 1))) (fun p84 => (kv_ite (kv_ite (kv_st ⟨rfl, rfl, rfl, rfl⟩ (hK (RS.setI p84.2 99 ((p84.2.i 99) - 1)))) (kv_bind (kr_st ⟨rfl, rfl, rfl, rfl⟩ (kr_f_X12_finals N p84.2 ((σ.i 99) - 1))) (fun p88 => (kv_ite (kv_st ⟨rfl, rfl, rfl, rfl⟩ (hK (RS.setI p88.2 99 ((p88.2.i 99) - 1)))) (kv_some ⟨rfl, rfl, rfl, rfl⟩))))) (kv_some ⟨rfl, rfl, rfl, rfl⟩)))) (kv_ite (kv_st ⟨rfl, rfl, rfl, rfl⟩ (hK (RS.setI p77 99 ((p77.i 99) - 1)))) (kv_bind (kr_st ⟨rfl, rfl, rfl, rfl⟩ (kr_f_X12_finals N p77 ((σ.i 99) - 1))) (fun p81 => (kv_ite (kv_st ⟨rfl, rfl, rfl, rfl⟩ (hK (RS.setI p81.2 99 ((p81.2.i 99) - 1)))) (kv_some ⟨rfl, rfl, rfl, rfl⟩)))))))) (kv_ite (kv_st ⟨rfl, rfl, rfl, rfl⟩ (hK (RS.setI σ 99 ((σ.i 99) - 1)))) (kv_bind (kr_st ⟨rfl, rfl, rfl, rfl⟩ (kr_f_X12_finals N σ ((σ.i 99) - 1))) (fun p74 => (kv_ite (kv_st ⟨rfl, rfl, rfl, rfl⟩ (hK (RS.setI p74.2 99 ((p74.2.i 99) - 1)))) (kv_some ⟨rfl, rfl, rfl, rfl⟩)))))) (kv_st ⟨rfl, rfl, rfl, rfl⟩ (hK (RS.setI σ 99 ((σ.i 99) - 1))))))) kv_none)) (kv_ite (kv_some ⟨rfl, rfl, rfl, rfl⟩) (kv_ite (kv_ite (kv_bindv (kv_st ⟨rfl, rfl, rfl, rfl⟩ (kr_f_X12_row N σ 4 (σ.a 101 ((((σ.i 99) - 1) : Int32).toNatClampNeg)))) (fun p57 => (kv_ite (kv_st ⟨rfl, rfl, rfl, rfl⟩ (hK (RS.setI (RS.setA p57 91 (((p57.a 101 ((((σ.i 99) - 1) : Int32).toNatClampNeg)) : Int32).toNatClampNeg) ((p57.a 91 (((p57.a 101 ((((σ.i 99) - 1) : Int32).toNatClampNeg)) : Int32).toNatClampNeg)) - 1)) 99 ((p57.i 99) - 1)))) kv_none))) (kv_ite (kv_st ⟨rfl, rfl, rfl, rfl⟩ (hK (RS.setI (RS.setI σ 97 (σ.a 101 ((((σ.i 99) - 1) : Int32).toNatClampNeg))) 99 ((σ.i 99) - 1)))) (kv_ite (kv_ite (kv_bindv (kv_st ⟨rfl, rfl, rfl, rfl⟩ (kr_f_X12_closeAll N σ ((σ.i 99) - 1))) (fun p43 => (kv_ite (kv_bind (kr_st ⟨rfl, rfl, rfl, rfl⟩ (kr_f_X12_isCaught N p43 ((σ.i 99) - 1))) (fun p50 => (kv_ite (kv_ite (kv_st ⟨rfl, rfl, rfl, rfl⟩ (hK (RS.setI p50.2 99 ((p50.2.i 99) - 1)))) (kv_bind (kr_st ⟨rfl, rfl, rfl, rfl⟩ (kr_f_X12_finals N p50.2 ((σ.i 99) - 1))) (fun p54 => (kv_ite (kv_st ⟨rfl, rfl, rfl, rfl⟩ (hK (RS.setI p54.2 99 ((p54.2.i 99) - 1)))) (kv_some ⟨rfl, rfl, rfl, rfl⟩))))) (kv_some ⟨rfl, rfl, rfl, rfl⟩)))) (kv_ite (kv_st ⟨rfl, rfl, rfl, rfl⟩ (hK (RS.setI p43 99 ((p43.i 99) - 1)))) (kv_bind (kr_st ⟨rfl, rfl, rfl, rfl⟩ (kr_f_X12_finals N p43 ((σ.i 99) - 1))) (fun p47 => (kv_ite (kv_st ⟨rfl, rfl, rfl, rfl⟩ (hK (RS.setI p47.2 99 ((p47.2.i 99) - 1)))) (kv_some ⟨rfl, rfl, rfl, rfl⟩)))))))) (kv_ite (kv_st ⟨rfl, rfl, rfl, rfl⟩ (hK (RS.setI σ 99 ((σ.i 99) - 1)))) (kv_bind (kr_st ⟨rfl, rfl, rfl, rfl⟩ (kr_f_X12_finals N σ ((σ.i 99) - 1))) (fun p40 => (kv_ite (kv_st ⟨rfl, rfl, rfl, rfl⟩ (hK (RS.setI p40.2 99 ((p40.2.i 99) - 1)))) (kv_some ⟨rfl, rfl, rfl, rfl⟩)))))) (kv_st ⟨rfl, rfl, rfl, rfl⟩ (hK (RS.setI σ 99 ((σ.i 99) - 1))))))) kv_none))))
theorem kr_f_X12_leave_0 (N : Nat) : ∀ (n : Nat) (σ : RS), KV σ (f_X12_leave_0 N n σ )
  | 0, _ => kv_none
  | n+1, σ => kr_b_X12_leave_0 N (f_X12_leave_0 N n) (fun σ => kr_f_X12_leave_0 N n σ) σ
theorem kr_f_X12_leave (N : Nat) (σ : RS) : KV σ (f_X12_leave N σ) := by
  unfold f_X12_leave
  exact (kv_st ⟨rfl, rfl, rfl, rfl⟩ (kr_f_X12_leave_0 N N σ))
theorem kr_f_X12_step (N : Nat) (σ : RS) : KV σ (f_X12_step N σ) := by
  unfold f_X12_step
  exact (kv_ite (kv_some ⟨rfl, rfl, rfl, rfl⟩) (kv_some ⟨rfl, rfl, rfl, rfl⟩))
theorem kr_f_X12_compute (N : Nat) (σ : RS) (x1 : Int32) (x2 : Int32) (x3 : Int32) : KR σ (f_X12_compute N σ x1 x2 x3) := by
  unfold f_X12_compute
  exact (kr_ite (kr_ite kr_none (kr_some ⟨rfl, rfl, rfl, rfl⟩)) (kr_ite (kr_some ⟨rfl, rfl, rfl, rfl⟩) (kr_ite (kr_some ⟨rfl, rfl, rfl, rfl⟩) (kr_ite (kr_some ⟨rfl, rfl, rfl, rfl⟩) (kr_ite (kr_ite kr_none (kr_some ⟨rfl, rfl, rfl, rfl⟩)) (kr_ite (kr_ite (kr_some ⟨rfl, rfl, rfl, rfl⟩) (kr_some ⟨rfl, rfl, rfl, rfl⟩)) (kr_ite (kr_ite (kr_some ⟨rfl, rfl, rfl, rfl⟩) (kr_some ⟨rfl, rfl, rfl, rfl⟩)) (kr_ite (kr_ite (kr_some ⟨rfl, rfl, rfl, rfl⟩) (kr_some ⟨rfl, rfl, rfl, rfl⟩)) (kr_ite (kr_ite (kr_some ⟨rfl, rfl, rfl, rfl⟩) (kr_some ⟨rfl, rfl, rfl, rfl⟩)) (kr_ite (kr_ite (kr_some ⟨rfl, rfl, rfl, rfl⟩) (kr_some ⟨rfl, rfl, rfl, rfl⟩)) (kr_ite (kr_some ⟨rfl, rfl, rfl, rfl⟩) (kr_some ⟨rfl, rfl, rfl, rfl⟩))))))))))))
theorem kr_b_X12_caseOf_5 (N : Nat) (K : RS → Int32 → Int32 → Int32 → Option (Int32 × RS)) (hK : ∀ (σ : RS) (y0 : Int32) (y1 : Int32) (y2 : Int32), KR σ (K σ y0 y1 y2)) (σ : RS) (x2 : Int32) (x3 : Int32) (x4 : Int32) : KR σ (b_X12_caseOf_5 N K σ x2 x3 x4) := by
  unfold b_X12_caseOf_5
  exact (kr_ite (kr_some ⟨rfl, rfl, rfl, rfl⟩) (kr_ite (kr_ite (kr_ite (kr_some ⟨rfl, rfl, rfl, rfl⟩) (kr_st ⟨rfl, rfl, rfl, rfl⟩ (hK σ x2 x3 (σ.a 27 ((x4 : Int32).toNatClampNeg))))) (kr_st ⟨rfl, rfl, rfl, rfl⟩ (hK σ x2 x4 (σ.a 27 ((x4 : Int32).toNatClampNeg))))) kr_none))
theorem kr_f_X12_caseOf_5 (N : Nat) : ∀ (n : Nat) (σ : RS) (y0 : Int32) (y1 : Int32) (y2 : Int32), KR σ (f_X12_caseOf_5 N n σ y0 y1 y2)
  | 0, _, _, _, _ => kr_none
  | n+1, σ, y0, y1, y2 => kr_b_X12_caseOf_5 N (f_X12_caseOf_5 N n) (fun σ y0 y1 y2 => kr_f_X12_caseOf_5 N n σ y0 y1 y2) σ y0 y1 y2
theorem kr_f_X12_caseOf (N : Nat) (σ : RS) (x1 : Int32) (x2 : Int32) : KR σ (f_X12_caseOf N σ x1 x2) := by
  unfold f_X12_caseOf
  exact (kr_st ⟨rfl, rfl, rfl, rfl⟩ (kr_f_X12_caseOf_5 N N σ x2 (-1) x1))
theorem kr_f_X12_goOn (N : Nat) (σ : RS) (x1 : Int32) : KV σ (f_X12_goOn N σ x1) := by
  unfold f_X12_goOn
  exact (kv_bind (kr_st ⟨rfl, rfl, rfl, rfl⟩ (kr_f_X12_finals N σ x1)) (fun p1 => (kv_ite (kv_ite (kv_ite (kv_some ⟨rfl, rfl, rfl, rfl⟩) kv_none) kv_none) (kv_some ⟨rfl, rfl, rfl, rfl⟩))))
theorem kr_b_X12_others_85 (N : Nat) (K : RS → Int32 → Int32 → Int32 → Option (RS)) (hK : ∀ (σ : RS) (y0 : Int32) (y1 : Int32) (y2 : Int32), KV σ (K σ y0 y1 y2)) (σ : RS) (x2 : Int32) (x4 : Int32) (x5 : Int32) : KV σ (b_X12_others_85 N K σ x2 x4 x5) := by
  unfold b_X12_others_85
  exact (kv_ite (kv_bind (kr_st ⟨rfl, rfl, rfl, rfl⟩ (kr_f_X12_record N (RS.setI σ 93 ((σ.i 93) - x2)) 2 x4 x4 (σ.i 97))) (fun p4 => (kv_some ⟨rfl, rfl, rfl, rfl⟩))) (kv_ite (kv_ite (kv_st ⟨rfl, rfl, rfl, rfl⟩ (hK (RS.setI (RS.setA σ 98 (((σ.i 97) : Int32).toNatClampNeg) (σ.a 94 (((((σ.i 93) - x2) + x5) : Int32).toNatClampNeg))) 97 ((σ.i 97) + 1)) x2 x4 (x5 + 1))) kv_none) kv_none))
theorem kr_f_X12_others_85 (N : Nat) : ∀ (n : Nat) (σ : RS) (y0 : Int32) (y1 : Int32) (y2 : Int32), KV σ (f_X12_others_85 N n σ y0 y1 y2)
  | 0, _, _, _, _ => kv_none
  | n+1, σ, y0, y1, y2 => kr_b_X12_others_85 N (f_X12_others_85 N n) (fun σ y0 y1 y2 => kr_f_X12_others_85 N n σ y0 y1 y2) σ y0 y1 y2
theorem kr_f_X12_others (N : Nat) (σ : RS) (x1 : Int32) (x2 : Int32) : KV σ (f_X12_others N σ x1 x2) := by
  unfold f_X12_others
  exact (kv_ite (kv_ite (kv_st ⟨rfl, rfl, rfl, rfl⟩ (kr_f_X12_others_85 N N σ x2 (σ.i 97) 0)) (kv_ite (kv_ite (kv_ite (kv_some ⟨rfl, rfl, rfl, rfl⟩) (kv_bindv (kv_st ⟨rfl, rfl, rfl, rfl⟩ (kr_f_X12_step N σ)) (fun p11 => (kv_ite (kv_ite (kv_some ⟨rfl, rfl, rfl, rfl⟩) kv_none) kv_none)))) kv_none) (kv_ite (kv_ite (kv_some ⟨rfl, rfl, rfl, rfl⟩) kv_none) (kv_ite (kv_ite (kv_ite (kv_some ⟨rfl, rfl, rfl, rfl⟩) (kv_bindv (kv_st ⟨rfl, rfl, rfl, rfl⟩ (kr_f_X12_leave N (RS.setI (RS.setI (RS.setI (RS.setI (RS.setI (RS.setI σ 110 (σ.a 105 ((((σ.i 99) - 1) : Int32).toNatClampNeg))) 111 (σ.a 106 ((((σ.i 99) - 1) : Int32).toNatClampNeg))) 112 (σ.a 107 ((((σ.i 99) - 1) : Int32).toNatClampNeg))) 113 (σ.a 108 ((((σ.i 99) - 1) : Int32).toNatClampNeg))) 114 (σ.a 109 ((((σ.i 99) - 1) : Int32).toNatClampNeg))) 99 ((σ.i 99) - 1)))) (fun p20 => (kv_some ⟨rfl, rfl, rfl, rfl⟩)))) kv_none) (kv_ite (kv_ite (kv_ite (kv_some ⟨rfl, rfl, rfl, rfl⟩) (kv_bindv (kv_st ⟨rfl, rfl, rfl, rfl⟩ (kr_f_X12_leave N (RS.setI (RS.setI (RS.setI (RS.setI (RS.setI (RS.setI σ 110 (σ.a 105 ((((σ.i 99) - 1) : Int32).toNatClampNeg))) 111 (σ.a 106 ((((σ.i 99) - 1) : Int32).toNatClampNeg))) 112 (σ.a 107 ((((σ.i 99) - 1) : Int32).toNatClampNeg))) 113 (σ.a 108 ((((σ.i 99) - 1) : Int32).toNatClampNeg))) 114 (σ.a 109 ((((σ.i 99) - 1) : Int32).toNatClampNeg))) 99 ((σ.i 99) - 1)))) (fun p25 => (kv_some ⟨rfl, rfl, rfl, rfl⟩)))) kv_none) (kv_ite (kv_ite (kv_ite (kv_some ⟨rfl, rfl, rfl, rfl⟩) (kv_bindv (kv_st ⟨rfl, rfl, rfl, rfl⟩ (kr_f_X12_leave N (RS.setI (RS.setI (RS.setI (RS.setI (RS.setI (RS.setI σ 110 (σ.a 105 ((((σ.i 99) - 1) : Int32).toNatClampNeg))) 111 (σ.a 106 ((((σ.i 99) - 1) : Int32).toNatClampNeg))) 112 (σ.a 107 ((((σ.i 99) - 1) : Int32).toNatClampNeg))) 113 (σ.a 108 ((((σ.i 99) - 1) : Int32).toNatClampNeg))) 114 (σ.a 109 ((((σ.i 99) - 1) : Int32).toNatClampNeg))) 99 ((σ.i 99) - 1)))) (fun p30 => (kv_some ⟨rfl, rfl, rfl, rfl⟩)))) kv_none) (kv_ite (kv_ite (kv_ite (kv_some ⟨rfl, rfl, rfl, rfl⟩) (kv_bindv (kv_st ⟨rfl, rfl, rfl, rfl⟩ (kr_f_X12_leave N (RS.setI (RS.setI (RS.setI (RS.setI (RS.setI (RS.setI σ 110 (σ.a 105 ((((σ.i 99) - 1) : Int32).toNatClampNeg))) 111 (σ.a 106 ((((σ.i 99) - 1) : Int32).toNatClampNeg))) 112 (σ.a 107 ((((σ.i 99) - 1) : Int32).toNatClampNeg))) 113 (σ.a 108 ((((σ.i 99) - 1) : Int32).toNatClampNeg))) 114 (σ.a 109 ((((σ.i 99) - 1) : Int32).toNatClampNeg))) 99 ((σ.i 99) - 1)))) (fun p35 => (kv_some ⟨rfl, rfl, rfl, rfl⟩)))) kv_none) (kv_ite (kv_ite (kv_ite (kv_some ⟨rfl, rfl, rfl, rfl⟩) (kv_bindv (kv_st ⟨rfl, rfl, rfl, rfl⟩ (kr_f_X12_leave N (RS.setI (RS.setI (RS.setI (RS.setI (RS.setI (RS.setI σ 110 (σ.a 105 ((((σ.i 99) - 1) : Int32).toNatClampNeg))) 111 (σ.a 106 ((((σ.i 99) - 1) : Int32).toNatClampNeg))) 112 (σ.a 107 ((((σ.i 99) - 1) : Int32).toNatClampNeg))) 113 (σ.a 108 ((((σ.i 99) - 1) : Int32).toNatClampNeg))) 114 (σ.a 109 ((((σ.i 99) - 1) : Int32).toNatClampNeg))) 99 ((σ.i 99) - 1)))) (fun p40 => (kv_some ⟨rfl, rfl, rfl, rfl⟩)))) kv_none) (kv_ite (kv_bind (kr_st ⟨rfl, rfl, rfl, rfl⟩ (kr_f_X12_record N σ 4 x2 0 (σ.i 95))) (fun p43 => (kv_some ⟨rfl, rfl, rfl, rfl⟩))) (kv_ite (kv_ite (kv_ite (kv_ite (kv_bindv (kv_st ⟨rfl, rfl, rfl, rfl⟩ (kr_f_X12_row N σ 1 x2)) (fun p49 => (kv_ite (kv_some ⟨rfl, rfl, rfl, rfl⟩) kv_none))) (kv_some ⟨rfl, rfl, rfl, rfl⟩)) (kv_bindv (kv_st ⟨rfl, rfl, rfl, rfl⟩ (kr_f_X12_raise N σ ((σ.a 6 ((x2 : Int32).toNatClampNeg)) - 1) x2)) (fun p52 => (kv_bindv (kv_st ⟨rfl, rfl, rfl, rfl⟩ (kr_f_X12_leave N p52)) (fun p54 => (kv_some ⟨rfl, rfl, rfl, rfl⟩)))))) kv_none) (kv_ite (kv_bindv (kv_st ⟨rfl, rfl, rfl, rfl⟩ (kr_f_X12_closeAll N (RS.setI σ 110 0) ((σ.i 99) - 1))) (fun p57 => (kv_ite (kv_bindv (kv_st ⟨rfl, rfl, rfl, rfl⟩ (kr_f_X12_leave N p57)) (fun p62 => (kv_some ⟨rfl, rfl, rfl, rfl⟩))) (kv_bindv (kv_st ⟨rfl, rfl, rfl, rfl⟩ (kr_f_X12_goOn N p57 ((σ.i 99) - 1))) (fun p60 => (kv_some ⟨rfl, rfl, rfl, rfl⟩)))))) (kv_ite (kv_bindv (kv_st ⟨rfl, rfl, rfl, rfl⟩ (kr_f_X12_goOn N (RS.setI σ 110 0) ((σ.i 99) - 1))) (fun p65 => (kv_some ⟨rfl, rfl, rfl, rfl⟩))) (kv_ite (kv_ite (kv_some ⟨rfl, rfl, rfl, rfl⟩) (kv_bindv (kv_st ⟨rfl, rfl, rfl, rfl⟩ (kr_f_X12_leave N (RS.setI (RS.setI (RS.setI (RS.setI (RS.setI (RS.setI σ 110 (σ.a 105 ((((σ.i 99) - 1) : Int32).toNatClampNeg))) 111 (σ.a 106 ((((σ.i 99) - 1) : Int32).toNatClampNeg))) 112 (σ.a 107 ((((σ.i 99) - 1) : Int32).toNatClampNeg))) 113 (σ.a 108 ((((σ.i 99) - 1) : Int32).toNatClampNeg))) 114 (σ.a 109 ((((σ.i 99) - 1) : Int32).toNatClampNeg))) 99 ((σ.i 99) - 1)))) (fun p69 => (kv_some ⟨rfl, rfl, rfl, rfl⟩)))) kv_none))))))))))))) kv_none)
theorem kr_f_X12_ends_128 (N : Nat) (σ : RS) (x1 : Int32) : KV σ (f_X12_ends_128 N σ x1) := by
  unfold f_X12_ends_128
  exact (kv_ite (kv_bindv (kv_st ⟨rfl, rfl, rfl, rfl⟩ (kr_f_X12_leave N (RS.setI σ 112 (σ.a 23 ((x1 : Int32).toNatClampNeg))))) (fun p7 => (kv_some ⟨rfl, rfl, rfl, rfl⟩))) kv_none)
theorem kr_f_X12_ends_242 (N : Nat) (σ : RS) : KV σ (f_X12_ends_242 N σ) := by
  unfold f_X12_ends_242
  exact (kv_some ⟨rfl, rfl, rfl, rfl⟩)
theorem kr_f_X12_ends_351 (N : Nat) (σ : RS) : KV σ (f_X12_ends_351 N σ) := by
  unfold f_X12_ends_351
  exact (kv_some ⟨rfl, rfl, rfl, rfl⟩)
theorem kr_f_X12_ends (N : Nat) (σ : RS) (x1 : Int32) (x2 : Int32) : KV σ (f_X12_ends N σ x1 x2) := by
  unfold f_X12_ends
  exact (kv_ite (kv_ite (kv_bind (kr_st ⟨rfl, rfl, rfl, rfl⟩ (kr_f_X12_take N σ)) (fun p3 => (kv_ite (kv_st ⟨rfl, rfl, rfl, rfl⟩ (kr_f_X12_ends_128 N (RS.setI (RS.setI p3.2 113 p3.1) 110 2) x1)) (kv_st ⟨rfl, rfl, rfl, rfl⟩ (kr_f_X12_ends_128 N (RS.setI (RS.setI p3.2 113 p3.1) 110 4) x1))))) (kv_ite (kv_bind (kr_st ⟨rfl, rfl, rfl, rfl⟩ (kr_f_X12_take N σ)) (fun p10 => (kv_ite (kv_st ⟨rfl, rfl, rfl, rfl⟩ (kr_f_X12_ends_128 N (RS.setI (RS.setI p10.2 113 p10.1) 110 2) x1)) (kv_st ⟨rfl, rfl, rfl, rfl⟩ (kr_f_X12_ends_128 N (RS.setI (RS.setI p10.2 113 p10.1) 110 4) x1))))) (kv_ite (kv_bind (kr_st ⟨rfl, rfl, rfl, rfl⟩ (kr_f_X12_take N σ)) (fun p14 => (kv_bindv (kv_st ⟨rfl, rfl, rfl, rfl⟩ (kr_f_X12_raise N p14.2 x2 p14.1)) (fun p16 => (kv_bindv (kv_st ⟨rfl, rfl, rfl, rfl⟩ (kr_f_X12_leave N p16)) (fun p18 => (kv_some ⟨rfl, rfl, rfl, rfl⟩))))))) (kv_ite (kv_bindv (kv_st ⟨rfl, rfl, rfl, rfl⟩ (kr_f_X12_raise N σ x2 0)) (fun p21 => (kv_bindv (kv_st ⟨rfl, rfl, rfl, rfl⟩ (kr_f_X12_leave N p21)) (fun p23 => (kv_some ⟨rfl, rfl, rfl, rfl⟩))))) (kv_ite (kv_ite (kv_bindv (kv_st ⟨rfl, rfl, rfl, rfl⟩ (kr_f_X12_leave N (RS.setI (RS.setI σ 114 (σ.a 84 ((x2 : Int32).toNatClampNeg))) 110 3))) (fun p27 => (kv_some ⟨rfl, rfl, rfl, rfl⟩))) kv_none) (kv_ite (kv_ite (kv_st ⟨rfl, rfl, rfl, rfl⟩ (kr_f_X12_ends_242 N (RS.setI σ 92 x2))) (kv_st ⟨rfl, rfl, rfl, rfl⟩ (kr_f_X12_ends_242 N (RS.setI σ 92 (σ.i 92))))) (kv_ite (kv_bindv (kv_st ⟨rfl, rfl, rfl, rfl⟩ (kr_f_X12_others N σ x1 x2)) (fun p32 => (kv_some ⟨rfl, rfl, rfl, rfl⟩))) (kv_ite (kv_bindv (kv_st ⟨rfl, rfl, rfl, rfl⟩ (kr_f_X12_others N σ x1 x2)) (fun p35 => (kv_some ⟨rfl, rfl, rfl, rfl⟩))) (kv_ite (kv_bindv (kv_st ⟨rfl, rfl, rfl, rfl⟩ (kr_f_X12_others N σ x1 x2)) (fun p38 => (kv_some ⟨rfl, rfl, rfl, rfl⟩))) (kv_ite (kv_bindv (kv_st ⟨rfl, rfl, rfl, rfl⟩ (kr_f_X12_row N σ 3 x2)) (fun p41 => (kv_ite (kv_bind (kr_st ⟨rfl, rfl, rfl, rfl⟩ (kr_f_X12_record N (RS.setA p41 91 ((x2 : Int32).toNatClampNeg) ((p41.a 91 ((x2 : Int32).toNatClampNeg)) + 1)) 1 x2 0 0)) (fun p44 => (kv_some ⟨rfl, rfl, rfl, rfl⟩))) kv_none))) (kv_ite (kv_ite (kv_bindv (kv_st ⟨rfl, rfl, rfl, rfl⟩ (kr_f_X12_row N (RS.setI σ 99 ((σ.i 99) - 1)) 4 (σ.a 101 ((((σ.i 99) - 1) : Int32).toNatClampNeg)))) (fun p48 => (kv_ite (kv_ite (kv_some ⟨rfl, rfl, rfl, rfl⟩) kv_none) kv_none))) kv_none) (kv_ite (kv_bind (kr_st ⟨rfl, rfl, rfl, rfl⟩ (kr_f_X12_take N σ)) (fun p53 => (kv_bind (kr_st ⟨rfl, rfl, rfl, rfl⟩ (kr_f_X12_caseOf N p53.2 x2 p53.1)) (fun p55 => (kv_ite (kv_ite (kv_st ⟨rfl, rfl, rfl, rfl⟩ (kr_f_X12_ends_351 N (RS.setI p55.2 92 (p55.2.a 26 ((p55.1 : Int32).toNatClampNeg))))) kv_none) (kv_st ⟨rfl, rfl, rfl, rfl⟩ (kr_f_X12_ends_351 N (RS.setI p55.2 92 (p55.2.a 23 ((x1 : Int32).toNatClampNeg)))))))))) (kv_ite (kv_bind (kr_st ⟨rfl, rfl, rfl, rfl⟩ (kr_f_X12_take N σ)) (fun p60 => (kv_bind (kr_st ⟨rfl, rfl, rfl, rfl⟩ (kr_f_X12_caseOf N p60.2 x2 p60.1)) (fun p62 => (kv_bind (kr_st ⟨rfl, rfl, rfl, rfl⟩ (kr_f_X12_record N p62.2 3 x1 0 0)) (fun p64 => (kv_ite (kv_some ⟨rfl, rfl, rfl, rfl⟩) kv_none))))))) (kv_ite (kv_ite (kv_ite (kv_some ⟨rfl, rfl, rfl, rfl⟩) kv_none) kv_none) (kv_ite (kv_bindv (kv_st ⟨rfl, rfl, rfl, rfl⟩ (kr_f_X12_others N σ x1 x2)) (fun p71 => (kv_some ⟨rfl, rfl, rfl, rfl⟩))) (kv_ite (kv_bindv (kv_st ⟨rfl, rfl, rfl, rfl⟩ (kr_f_X12_others N σ x1 x2)) (fun p74 => (kv_some ⟨rfl, rfl, rfl, rfl⟩))) (kv_ite (kv_bindv (kv_st ⟨rfl, rfl, rfl, rfl⟩ (kr_f_X12_others N σ x1 x2)) (fun p77 => (kv_some ⟨rfl, rfl, rfl, rfl⟩))) (kv_ite (kv_bindv (kv_st ⟨rfl, rfl, rfl, rfl⟩ (kr_f_X12_others N σ x1 x2)) (fun p80 => (kv_some ⟨rfl, rfl, rfl, rfl⟩))) (kv_ite (kv_bindv (kv_st ⟨rfl, rfl, rfl, rfl⟩ (kr_f_X12_others N σ x1 x2)) (fun p83 => (kv_some ⟨rfl, rfl, rfl, rfl⟩))) (kv_ite (kv_bindv (kv_st ⟨rfl, rfl, rfl, rfl⟩ (kr_f_X12_leave N (RS.setI (RS.setI (RS.setI σ 110 1) 111 x2) 112 (σ.a 23 ((x1 : Int32).toNatClampNeg))))) (fun p86 => (kv_some ⟨rfl, rfl, rfl, rfl⟩))) (kv_bindv (kv_st ⟨rfl, rfl, rfl, rfl⟩ (kr_f_X12_others N σ x1 x2)) (fun p88 => (kv_some ⟨rfl, rfl, rfl, rfl⟩))))))))))))))))))))))) kv_none)
theorem kr_f_X12_act_229 (N : Nat) (σ : RS) (x2 : Int32) (x3 : Int32) (x4 : Int32) : KV σ (f_X12_act_229 N σ x2 x3 x4) := by
  unfold f_X12_act_229
  exact (kv_bind (kr_st ⟨rfl, rfl, rfl, rfl⟩ (kr_f_X12_compute N σ x2 x4 x3)) (fun p35 => (kv_bindv (kv_st ⟨rfl, rfl, rfl, rfl⟩ (kr_f_X12_put N p35.2 p35.1)) (fun p37 => (kv_some ⟨rfl, rfl, rfl, rfl⟩)))))
theorem kr_f_X12_act_212 (N : Nat) (σ : RS) (x2 : Int32) (x3 : Int32) (x4 : Int32) : KV σ (f_X12_act_212 N σ x2 x3 x4) := by
  unfold f_X12_act_212
  exact (kv_ite (kv_bindv (kv_st ⟨rfl, rfl, rfl, rfl⟩ (kr_f_X12_raise N σ 2 0)) (fun p39 => (kv_bindv (kv_st ⟨rfl, rfl, rfl, rfl⟩ (kr_f_X12_leave N p39)) (fun p41 => (kv_some ⟨rfl, rfl, rfl, rfl⟩))))) (kv_st ⟨rfl, rfl, rfl, rfl⟩ (kr_f_X12_act_229 N σ x2 x3 x4)))
theorem kr_f_X12_act_290 (N : Nat) (σ : RS) : KV σ (f_X12_act_290 N σ) := by
  unfold f_X12_act_290
  exact (kv_some ⟨rfl, rfl, rfl, rfl⟩)
theorem kr_f_X12_act_282 (N : Nat) (σ : RS) (x2 : Int32) : KV σ (f_X12_act_282 N σ x2) := by
  unfold f_X12_act_282
  exact (kv_some ⟨rfl, rfl, rfl, rfl⟩)
theorem kr_f_X12_act_322 (N : Nat) (σ : RS) : KV σ (f_X12_act_322 N σ) := by
  unfold f_X12_act_322
  exact (kv_some ⟨rfl, rfl, rfl, rfl⟩)
theorem kr_f_X12_act_344 (N : Nat) (σ : RS) : KV σ (f_X12_act_344 N σ) := by
  unfold f_X12_act_344
  exact (kv_some ⟨rfl, rfl, rfl, rfl⟩)
theorem kr_f_X12_act (N : Nat) (σ : RS) (x1 : Int32) : KV σ (f_X12_act N σ x1) := by
  unfold f_X12_act
  exact (kv_ite (kv_ite (kv_bindv (kv_st ⟨rfl, rfl, rfl, rfl⟩ (kr_f_X12_step N σ)) (fun p3 => (kv_some ⟨rfl, rfl, rfl, rfl⟩))) (kv_ite (kv_bindv (kv_st ⟨rfl, rfl, rfl, rfl⟩ (kr_f_X12_put N σ (σ.a 22 ((x1 : Int32).toNatClampNeg)))) (fun p6 => (kv_some ⟨rfl, rfl, rfl, rfl⟩))) (kv_ite (kv_ite (kv_bindv (kv_st ⟨rfl, rfl, rfl, rfl⟩ (kr_f_X12_put N σ (σ.a 84 (((σ.a 22 ((x1 : Int32).toNatClampNeg)) : Int32).toNatClampNeg)))) (fun p10 => (kv_some ⟨rfl, rfl, rfl, rfl⟩))) kv_none) (kv_ite (kv_ite (kv_ite (kv_bindv (kv_st ⟨rfl, rfl, rfl, rfl⟩ (kr_f_X12_put N σ (σ.a 87 (((σ.a 84 (((σ.a 22 ((x1 : Int32).toNatClampNeg)) : Int32).toNatClampNeg)) : Int32).toNatClampNeg)))) (fun p15 => (kv_some ⟨rfl, rfl, rfl, rfl⟩))) kv_none) kv_none) (kv_ite (kv_bind (kr_st ⟨rfl, rfl, rfl, rfl⟩ (kr_f_X12_take N σ)) (fun p18 => (kv_ite (kv_some ⟨rfl, rfl, rfl, rfl⟩) kv_none))) (kv_ite (kv_ite (kv_some ⟨rfl, rfl, rfl, rfl⟩) kv_none) (kv_ite (kv_bind (kr_st ⟨rfl, rfl, rfl, rfl⟩ (kr_f_X12_take N σ)) (fun p24 => (kv_bindv (kv_st ⟨rfl, rfl, rfl, rfl⟩ (kr_f_X12_put N p24.2 (-p24.1))) (fun p26 => (kv_some ⟨rfl, rfl, rfl, rfl⟩))))) (kv_ite (kv_bind (kr_st ⟨rfl, rfl, rfl, rfl⟩ (kr_f_X12_take N σ)) (fun p29 => (kv_bind (kr_st ⟨rfl, rfl, rfl, rfl⟩ (kr_f_X12_take N p29.2)) (fun p31 => (kv_ite (kv_st ⟨rfl, rfl, rfl, rfl⟩ (kr_f_X12_act_212 N p31.2 (σ.a 22 ((x1 : Int32).toNatClampNeg)) p29.1 p31.1)) (kv_ite (kv_st ⟨rfl, rfl, rfl, rfl⟩ (kr_f_X12_act_212 N p31.2 (σ.a 22 ((x1 : Int32).toNatClampNeg)) p29.1 p31.1)) (kv_st ⟨rfl, rfl, rfl, rfl⟩ (kr_f_X12_act_229 N p31.2 (σ.a 22 ((x1 : Int32).toNatClampNeg)) p29.1 p31.1)))))))) (kv_ite (kv_bind (kr_st ⟨rfl, rfl, rfl, rfl⟩ (kr_f_X12_take N σ)) (fun p45 => (kv_bind (kr_st ⟨rfl, rfl, rfl, rfl⟩ (kr_f_X12_take N p45.2)) (fun p47 => (kv_ite (kv_st ⟨rfl, rfl, rfl, rfl⟩ (kr_f_X12_act_212 N p47.2 (σ.a 22 ((x1 : Int32).toNatClampNeg)) p45.1 p47.1)) (kv_ite (kv_st ⟨rfl, rfl, rfl, rfl⟩ (kr_f_X12_act_212 N p47.2 (σ.a 22 ((x1 : Int32).toNatClampNeg)) p45.1 p47.1)) (kv_st ⟨rfl, rfl, rfl, rfl⟩ (kr_f_X12_act_229 N p47.2 (σ.a 22 ((x1 : Int32).toNatClampNeg)) p45.1 p47.1)))))))) (kv_ite (kv_bind (kr_st ⟨rfl, rfl, rfl, rfl⟩ (kr_f_X12_take N σ)) (fun p52 => (kv_bindv (kv_st ⟨rfl, rfl, rfl, rfl⟩ (kr_f_X12_put N p52.2 (1 - p52.1))) (fun p54 => (kv_some ⟨rfl, rfl, rfl, rfl⟩))))) (kv_ite (kv_ite (kv_ite (kv_st ⟨rfl, rfl, rfl, rfl⟩ (kr_f_X12_act_290 N σ)) (kv_st ⟨rfl, rfl, rfl, rfl⟩ (kr_f_X12_act_282 N σ (σ.a 22 ((x1 : Int32).toNatClampNeg))))) kv_none) (kv_ite (kv_ite (kv_ite (kv_st ⟨rfl, rfl, rfl, rfl⟩ (kr_f_X12_act_282 N σ (σ.a 22 ((x1 : Int32).toNatClampNeg)))) (kv_st ⟨rfl, rfl, rfl, rfl⟩ (kr_f_X12_act_290 N σ))) kv_none) (kv_ite (kv_bind (kr_st ⟨rfl, rfl, rfl, rfl⟩ (kr_f_X12_take N σ)) (fun p67 => (kv_ite (kv_st ⟨rfl, rfl, rfl, rfl⟩ (kr_f_X12_act_322 N (RS.setI p67.2 92 (σ.a 22 ((x1 : Int32).toNatClampNeg))))) (kv_st ⟨rfl, rfl, rfl, rfl⟩ (kr_f_X12_act_322 N (RS.setI p67.2 92 (p67.2.i 92))))))) (kv_ite (kv_bind (kr_st ⟨rfl, rfl, rfl, rfl⟩ (kr_f_X12_take N σ)) (fun p71 => (kv_ite (kv_st ⟨rfl, rfl, rfl, rfl⟩ (kr_f_X12_act_344 N (RS.setI p71.2 92 (p71.2.i 92)))) (kv_st ⟨rfl, rfl, rfl, rfl⟩ (kr_f_X12_act_344 N (RS.setI p71.2 92 (σ.a 22 ((x1 : Int32).toNatClampNeg)))))))) (kv_ite (kv_some ⟨rfl, rfl, rfl, rfl⟩) (kv_ite (kv_bind (kr_st ⟨rfl, rfl, rfl, rfl⟩ (kr_f_X12_take N σ)) (fun p76 => (kv_bindv (kv_st ⟨rfl, rfl, rfl, rfl⟩ (kr_f_X12_row N p76.2 0 p76.1)) (fun p78 => (kv_some ⟨rfl, rfl, rfl, rfl⟩))))) (kv_bindv (kv_st ⟨rfl, rfl, rfl, rfl⟩ (kr_f_X12_ends N σ x1 (σ.a 22 ((x1 : Int32).toNatClampNeg)))) (fun p80 => (kv_some ⟨rfl, rfl, rfl, rfl⟩))))))))))))))))))) kv_none)
theorem kr_f_X12_run_163 (N : Nat) (σ : RS) : KR σ (f_X12_run_163 N σ) := by
  unfold f_X12_run_163
  exact (kr_ite (kr_some ⟨rfl, rfl, rfl, rfl⟩) (kr_ite (kr_some ⟨rfl, rfl, rfl, rfl⟩) (kr_ite (kr_some ⟨rfl, rfl, rfl, rfl⟩) (kr_some ⟨rfl, rfl, rfl, rfl⟩))))
theorem kr_b_X12_run_122 (N : Nat) (K : RS → Option (Int32 × RS)) (hK : ∀ (σ : RS), KR σ (K σ)) (σ : RS) : KR σ (b_X12_run_122 N K σ) := by
  unfold b_X12_run_122
  exact (kr_ite (kr_st ⟨rfl, rfl, rfl, rfl⟩ (kr_f_X12_run_163 N σ)) (kr_ite (kr_st ⟨rfl, rfl, rfl, rfl⟩ (kr_f_X12_run_163 N σ)) (kr_bindv (kv_st ⟨rfl, rfl, rfl, rfl⟩ (kr_f_X12_act N (RS.setI σ 92 ((σ.i 92) + 1)) (σ.i 92))) (fun p9 => (kr_st ⟨rfl, rfl, rfl, rfl⟩ (hK p9))))))
theorem kr_f_X12_run_122 (N : Nat) : ∀ (n : Nat) (σ : RS), KR σ (f_X12_run_122 N n σ )
  | 0, _ => kr_none
  | n+1, σ => kr_b_X12_run_122 N (f_X12_run_122 N n) (fun σ => kr_f_X12_run_122 N n σ) σ
theorem kr_b_X12_run_39 (N : Nat) (K : RS → Int32 → Int32 → Int32 → Option (Int32 × RS)) (hK : ∀ (σ : RS) (y0 : Int32) (y1 : Int32) (y2 : Int32), KR σ (K σ y0 y1 y2)) (σ : RS) (x1 : Int32) (x2 : Int32) (x3 : Int32) : KR σ (b_X12_run_39 N K σ x1 x2 x3) := by
  unfold b_X12_run_39
  exact (kr_ite (kr_st ⟨rfl, rfl, rfl, rfl⟩ (kr_f_X12_run_122 N N (RS.setI (RS.setI (RS.setI (RS.setI (RS.setI (RS.setI (RS.setI (RS.setI (RS.setI (RS.setI (RS.setA (RS.setA σ 84 ((0 : Int32).toNatClampNeg) x1) 84 ((1 : Int32).toNatClampNeg) x2) 80 0) 81 0) 85 0) 95 0) 97 0) 99 0) 93 0) 79 1) 115 0) 92 0))) (kr_ite (kr_st ⟨rfl, rfl, rfl, rfl⟩ (hK (RS.setA σ 91 ((x3 : Int32).toNatClampNeg) 0) x1 x2 (x3 + 1))) kr_none))
theorem kr_f_X12_run_39 (N : Nat) : ∀ (n : Nat) (σ : RS) (y0 : Int32) (y1 : Int32) (y2 : Int32), KR σ (f_X12_run_39 N n σ y0 y1 y2)
  | 0, _, _, _, _ => kr_none
  | n+1, σ, y0, y1, y2 => kr_b_X12_run_39 N (f_X12_run_39 N n) (fun σ y0 y1 y2 => kr_f_X12_run_39 N n σ y0 y1 y2) σ y0 y1 y2
theorem kr_b_X12_run_17 (N : Nat) (K : RS → Int32 → Int32 → Int32 → Option (Int32 × RS)) (hK : ∀ (σ : RS) (y0 : Int32) (y1 : Int32) (y2 : Int32), KR σ (K σ y0 y1 y2)) (σ : RS) (x1 : Int32) (x2 : Int32) (x3 : Int32) : KR σ (b_X12_run_17 N K σ x1 x2 x3) := by
  unfold b_X12_run_17
  exact (kr_ite (kr_st ⟨rfl, rfl, rfl, rfl⟩ (kr_f_X12_run_39 N N σ x1 x2 0)) (kr_ite (kr_st ⟨rfl, rfl, rfl, rfl⟩ (hK (RS.setA σ 84 ((x3 : Int32).toNatClampNeg) 0) x1 x2 (x3 + 1))) kr_none))
theorem kr_f_X12_run_17 (N : Nat) : ∀ (n : Nat) (σ : RS) (y0 : Int32) (y1 : Int32) (y2 : Int32), KR σ (f_X12_run_17 N n σ y0 y1 y2)
  | 0, _, _, _, _ => kr_none
  | n+1, σ, y0, y1, y2 => kr_b_X12_run_17 N (f_X12_run_17 N n) (fun σ y0 y1 y2 => kr_f_X12_run_17 N n σ y0 y1 y2) σ y0 y1 y2
theorem kr_f_X12_run (N : Nat) (σ : RS) (x1 : Int32) (x2 : Int32) : KR σ (f_X12_run N σ x1 x2) := by
  unfold f_X12_run
  exact (kr_ite (kr_some ⟨rfl, rfl, rfl, rfl⟩) (kr_st ⟨rfl, rfl, rfl, rfl⟩ (kr_f_X12_run_17 N N (RS.setI σ 0 0) x1 x2 0)))
theorem kr_b_X12_ran_168 (N : Nat) (K : RS → Int32 → Int32 → Option (Int32 × RS)) (hK : ∀ (σ : RS) (y0 : Int32) (y1 : Int32), KR σ (K σ y0 y1)) (σ : RS) (x3 : Int32) (x4 : Int32) : KR σ (b_X12_ran_168 N K σ x3 x4) := by
  unfold b_X12_ran_168
  exact (kr_ite (kr_some ⟨rfl, rfl, rfl, rfl⟩) (kr_ite (kr_st ⟨rfl, rfl, rfl, rfl⟩ (hK σ (x3 + (σ.a 91 ((x4 : Int32).toNatClampNeg))) (x4 + 1))) kr_none))
theorem kr_f_X12_ran_168 (N : Nat) : ∀ (n : Nat) (σ : RS) (y0 : Int32) (y1 : Int32), KR σ (f_X12_ran_168 N n σ y0 y1)
  | 0, _, _, _ => kr_none
  | n+1, σ, y0, y1 => kr_b_X12_ran_168 N (f_X12_ran_168 N n) (fun σ y0 y1 => kr_f_X12_ran_168 N n σ y0 y1) σ y0 y1
theorem kr_f_X12_ran_41 (N : Nat) (σ : RS) (x1 : Int32) (x2 : Int32) : KR σ (f_X12_ran_41 N σ x1 x2) := by
  unfold f_X12_ran_41
  exact (kr_ite (kr_some ⟨rfl, rfl, rfl, rfl⟩) (kr_ite (kr_some ⟨rfl, rfl, rfl, rfl⟩) (kr_ite (kr_ite (kr_some ⟨rfl, rfl, rfl, rfl⟩) (kr_some ⟨rfl, rfl, rfl, rfl⟩)) (kr_ite (kr_ite (kr_some ⟨rfl, rfl, rfl, rfl⟩) (kr_ite (kr_some ⟨rfl, rfl, rfl, rfl⟩) kr_none)) (kr_ite (kr_ite (kr_some ⟨rfl, rfl, rfl, rfl⟩) (kr_ite (kr_some ⟨rfl, rfl, rfl, rfl⟩) kr_none)) (kr_ite (kr_ite (kr_some ⟨rfl, rfl, rfl, rfl⟩) (kr_ite (kr_some ⟨rfl, rfl, rfl, rfl⟩) kr_none)) (kr_st ⟨rfl, rfl, rfl, rfl⟩ (kr_f_X12_ran_168 N N σ 0 0))))))))
theorem kr_f_X12_ran (N : Nat) (σ : RS) (x1 : Int32) : KR σ (f_X12_ran N σ x1) := by
  unfold f_X12_ran
  exact (kr_bind (kr_st ⟨rfl, rfl, rfl, rfl⟩ (kr_f_X12_in N (RS.setI σ 0 0) x1 0 6)) (fun p1 => (kr_ite (kr_some ⟨rfl, rfl, rfl, rfl⟩) (kr_ite (kr_some ⟨rfl, rfl, rfl, rfl⟩) (kr_ite (kr_st ⟨rfl, rfl, rfl, rfl⟩ (kr_f_X12_ran_41 N p1.2 x1 1)) (kr_st ⟨rfl, rfl, rfl, rfl⟩ (kr_f_X12_ran_41 N p1.2 x1 0)))))))
theorem kr_f_X12_trace_35 (N : Nat) (σ : RS) : KR σ (f_X12_trace_35 N σ) := by
  unfold f_X12_trace_35
  exact (kr_some ⟨rfl, rfl, rfl, rfl⟩)
theorem kr_f_X12_trace (N : Nat) (σ : RS) (x1 : Int32) (x2 : Int32) : KR σ (f_X12_trace N σ x1 x2) := by
  unfold f_X12_trace
  exact (kr_ite (kr_st ⟨rfl, rfl, rfl, rfl⟩ (kr_f_X12_trace_35 N (RS.setI σ 0 0))) (kr_bind (kr_st ⟨rfl, rfl, rfl, rfl⟩ (kr_f_X12_in N (RS.setI σ 0 0) x1 0 ((σ.i 81) - 1))) (fun p2 => (kr_ite (kr_st ⟨rfl, rfl, rfl, rfl⟩ (kr_f_X12_trace_35 N p2.2)) (kr_bind (kr_st ⟨rfl, rfl, rfl, rfl⟩ (kr_f_X12_in N p2.2 x2 0 1)) (fun p5 => (kr_ite (kr_st ⟨rfl, rfl, rfl, rfl⟩ (kr_f_X12_trace_35 N p5.2)) (kr_ite (kr_ite (kr_some ⟨rfl, rfl, rfl, rfl⟩) kr_none) (kr_ite (kr_some ⟨rfl, rfl, rfl, rfl⟩) kr_none)))))))))
theorem kr_f_X12_suppressed_48 (N : Nat) (σ : RS) : KR σ (f_X12_suppressed_48 N σ) := by
  unfold f_X12_suppressed_48
  exact (kr_some ⟨rfl, rfl, rfl, rfl⟩)
theorem kr_f_X12_suppressed (N : Nat) (σ : RS) (x1 : Int32) (x2 : Int32) : KR σ (f_X12_suppressed N σ x1 x2) := by
  unfold f_X12_suppressed
  exact (kr_ite (kr_st ⟨rfl, rfl, rfl, rfl⟩ (kr_f_X12_suppressed_48 N (RS.setI σ 0 0))) (kr_ite (kr_ite (kr_bind (kr_st ⟨rfl, rfl, rfl, rfl⟩ (kr_f_X12_in N (RS.setI σ 0 0) x1 0 ((σ.a 88 (((σ.i 114) : Int32).toNatClampNeg)) - 1))) (fun p4 => (kr_ite (kr_st ⟨rfl, rfl, rfl, rfl⟩ (kr_f_X12_suppressed_48 N p4.2)) (kr_bind (kr_st ⟨rfl, rfl, rfl, rfl⟩ (kr_f_X12_in N p4.2 x2 0 1)) (fun p7 => (kr_ite (kr_st ⟨rfl, rfl, rfl, rfl⟩ (kr_f_X12_suppressed_48 N p7.2)) (kr_ite (kr_ite (kr_some ⟨rfl, rfl, rfl, rfl⟩) kr_none) (kr_ite (kr_some ⟨rfl, rfl, rfl, rfl⟩) kr_none)))))))) kr_none) (kr_st ⟨rfl, rfl, rfl, rfl⟩ (kr_f_X12_suppressed_48 N (RS.setI σ 0 0)))))
theorem kr_f_X12_rounds_13 (N : Nat) (σ : RS) : KR σ (f_X12_rounds_13 N σ) := by
  unfold f_X12_rounds_13
  exact (kr_some ⟨rfl, rfl, rfl, rfl⟩)
theorem kr_f_X12_rounds (N : Nat) (σ : RS) (x1 : Int32) (x2 : Int32) : KR σ (f_X12_rounds N σ x1 x2) := by
  unfold f_X12_rounds
  exact (kr_ite (kr_st ⟨rfl, rfl, rfl, rfl⟩ (kr_f_X12_rounds_13 N (RS.setI σ 0 0))) (kr_ite (kr_ite (kr_some ⟨rfl, rfl, rfl, rfl⟩) (kr_ite kr_none (kr_ite (kr_some ⟨rfl, rfl, rfl, rfl⟩) (kr_some ⟨rfl, rfl, rfl, rfl⟩)))) (kr_st ⟨rfl, rfl, rfl, rfl⟩ (kr_f_X12_rounds_13 N (RS.setI σ 0 0)))))
end
