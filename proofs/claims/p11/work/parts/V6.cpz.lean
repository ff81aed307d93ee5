/-! the class: what stands between the calls; a reading begins -/
def CIV (h : Nat) (s : CS) : Prop := REFS s ∧ ROOM h s ∧ WDC s ∧ (∀ i a : Nat, i < 400 → s.r 51 i = some a → (bo (s.o a 5) ∧ bo (s.o a 6) ∧ bo (s.o a 7) ∧ bo (s.o a 8)) ∧ (0 ≤ (s.o a 3).toInt ∧ (s.o a 3).toInt ≤ 128)) ∧ (bo (s.i 14) ∧ (s.i 13).toInt ≤ 12) ∧ (0 ≤ (s.i 5).toInt ∧ (s.i 5).toInt ≤ 900) ∧ (¬ s.i 7 = 0 → ∃ D, WTC s D)
/-- the heap's side is the same -/
def HSM (s R : CS) : Prop := (R.hs = s.hs ∧ R.L = s.L ∧ R.k = s.k ∧ R.o = s.o ∧ R.ol = s.ol ∧ R.ot = s.ot ∧ R.r = s.r ∧ R.w = s.w) ∧ R.b 40 = s.b 40
theorem HSM.tr {s R T : CS} (h : HSM s R) (g : HSM R T) : HSM s T := by
  obtain ⟨⟨a1, a2, a3, a4, a5, a6, a7, a8⟩, a9⟩ := h
  obtain ⟨⟨b1, b2, b3, b4, b5, b6, b7, b8⟩, b9⟩ := g
  exact ⟨⟨b1.trans a1, b2.trans a2, b3.trans a3, b4.trans a4, b5.trans a5, b6.trans a6, b7.trans a7, b8.trans a8⟩, b9.trans a9⟩
theorem HSM.i (s : CS) (k : Nat) (v : Int32) : HSM s (CS.setI s k v) := ⟨⟨rfl, rfl, rfl, rfl, rfl, rfl, rfl, rfl⟩, rfl⟩
theorem HSM.a (s : CS) (k n : Nat) (v : Int32) : HSM s (CS.setA s k n v) := ⟨⟨rfl, rfl, rfl, rfl, rfl, rfl, rfl, rfl⟩, rfl⟩
theorem HSM.pa (s : CS) (k : Nat) (f : Nat → Int32) : HSM s (CS.putA s k f) := ⟨⟨rfl, rfl, rfl, rfl, rfl, rfl, rfl, rfl⟩, rfl⟩
theorem HSM.b (s : CS) (n : Nat) (v : Int64) : HSM s (CS.setB s 47 n v) := ⟨⟨rfl, rfl, rfl, rfl, rfl, rfl, rfl, rfl⟩, rfl⟩
theorem HSM.rf (s : CS) : HSM s s := ⟨⟨rfl, rfl, rfl, rfl, rfl, rfl, rfl, rfl⟩, rfl⟩
theorem HSM.refs {s R : CS} (h : HSM s R) (hr : REFS s) : REFS R := by
  obtain ⟨⟨a1, a2, a3, a4, a5, a6, a7, a8⟩, a9⟩ := h
  unfold REFS inP oK at *; rw [a1, a2, a3, a6, a7, a8]; exact hr
theorem HSM.room {s R : CS} (h : HSM s R) {k : Nat} (hr : ROOM k s) : ROOM k R := by
  obtain ⟨⟨a1, a2, a3, a4, a5, a6, a7, a8⟩, a9⟩ := h
  unfold ROOM at *; rw [a1, a7]; exact hr
theorem HSM.wd {s R : CS} (h : HSM s R) (hr : WDC s) : WDC R := by
  unfold WDC at *; rw [h.2]; exact hr
/-- before the first token, with so many names told -/
def PZ (s R : CS) (n : Int) : Prop := HSM s R ∧ (∀ j : Nat, ¬ (20 ≤ j ∧ j ≤ 27) → j ≠ 50 → R.i j = s.i j) ∧ (R.i 20 = 0 ∧ R.i 21 = 0 ∧ R.i 22 = 0 ∧ R.i 27 = 0) ∧ (R.i 50).toInt = n ∧ ∀ j : Nat, (j : Int) < n → R.a 49 j = -1
theorem PZ.b {s : CS} (N : Nat) : ok (f_X0_clear N s) (fun R => PZ s (CS.setI R.2 50 0) 0) := by
  unfold f_X0_clear
  refine ok_some ⟨⟨⟨rfl, rfl, rfl, rfl, rfl, rfl, rfl, rfl⟩, rfl⟩, fun j j1 j2 => ?_, ⟨?_, ?_, ?_, ?_⟩, ?_, fun j hj => by omega⟩
  · rw [ci_ne _ _ _ j2, ci_ne _ _ _ (by omega), ci_ne _ _ _ (by omega), ci_ne _ _ _ (by omega), ci_ne _ _ _ (by omega), ci_ne _ _ _ (by omega), ci_ne _ _ _ (by omega), ci_ne _ _ _ (by omega), ci_ne _ _ _ (by omega)]
  · rw [ci_ne _ _ _ (by omega), ci_ne _ _ _ (by omega), ci_ne _ _ _ (by omega), ci_ne _ _ _ (by omega), ci_ne _ _ _ (by omega), ci_ne _ _ _ (by omega), ci_ne _ _ _ (by omega), ci_ne _ _ _ (by omega), ci_at]
  · rw [ci_ne _ _ _ (by omega), ci_ne _ _ _ (by omega), ci_ne _ _ _ (by omega), ci_ne _ _ _ (by omega), ci_ne _ _ _ (by omega), ci_ne _ _ _ (by omega), ci_ne _ _ _ (by omega), ci_at]
  · rw [ci_ne _ _ _ (by omega), ci_ne _ _ _ (by omega), ci_ne _ _ _ (by omega), ci_ne _ _ _ (by omega), ci_ne _ _ _ (by omega), ci_ne _ _ _ (by omega), ci_at]
  · rw [ci_ne _ _ _ (by omega), ci_at]
  · rw [ci_at]; exact z_t0
theorem PZ.nc {s R : CS} {n : Int} (h : PZ s R n) (N : Nat) (x : Int32) : ok (f_X0_newCells N R x) (fun T => PZ s T.2 n) := by
  unfold f_X0_newCells
  obtain ⟨h1, h2, ⟨h3, h4, h5, h6⟩, h7, h8⟩ := h
  refine ok_some ⟨h1.tr (HSM.i _ _ _), fun j j1 j2 => ?_, ⟨?_, ?_, ?_, ?_⟩, ?_, h8⟩
  · rw [ci_ne _ _ _ (by omega)]; exact h2 j j1 j2
  · rw [ci_ne _ _ _ (by omega)]; exact h3
  · rw [ci_ne _ _ _ (by omega)]; exact h4
  · rw [ci_ne _ _ _ (by omega)]; exact h5
  · rw [ci_ne _ _ _ (by omega)]; exact h6
  · rw [ci_ne _ _ _ (by omega)]; exact h7
theorem PZ.ad {s R : CS} {n : Int} (h : PZ s R n) (hn : 0 ≤ n ∧ n < 100) (N : Nat) (x : Int64) (y : Int32) : ok (f_X4_add N R x y (-1)) (fun T => PZ s T.2 (n + 1)) := by
  unfold f_X4_add
  obtain ⟨h1, h2, ⟨h3, h4, h5, h6⟩, h7, h8⟩ := h
  have e1 : (1 : Int32).toInt = 1 := by decide
  have e128 : (128 : Int32).toInt = 128 := by decide
  rw [if_neg (fun q => by have := le_int q; rw [e128] at this; omega), if_pos ⟨by omega, by omega⟩]
  have cl : (R.i 50).toNatClampNeg = n.toNat := by
    show (R.i 50).toInt.toNat = n.toNat
    rw [h7]
  refine ok_some ⟨h1.tr ((((HSM.b R _ x).tr (HSM.a _ 48 _ y)).tr (HSM.a _ 49 _ (-1))).tr (HSM.i _ _ _)), fun j j1 j2 => ?_, ⟨?_, ?_, ?_, ?_⟩, ?_, fun j hj => ?_⟩
  · rw [ci_ne _ _ _ j2]; exact h2 j j1 j2
  · rw [ci_ne _ _ _ (by omega)]; exact h3
  · rw [ci_ne _ _ _ (by omega)]; exact h4
  · rw [ci_ne _ _ _ (by omega)]; exact h5
  · rw [ci_ne _ _ _ (by omega)]; exact h6
  · rw [ci_at, toInt_add] <;> rw [e1] <;> omega
  · show upd (R.a 49) (R.i 50).toNatClampNeg (-1) j = -1
    rw [cl]
    by_cases q : j = n.toNat
    · exact if_pos q
    · refine (if_neg q).trans ?_
      exact h8 j (by omega)
/-- the first token stands -/
def STZ (s R : CS) : Prop := HSM s R ∧ (R.i 13 = s.i 13 ∧ R.i 14 = s.i 14) ∧ (R.i 20 = 0 ∧ R.i 21 = 0 ∧ R.i 22 = 0 ∧ R.i 27 = 0 ∧ (R.i 50).toInt = 2) ∧ (R.i 53 = 0 ∧ R.i 56 = -1 ∧ R.i 32 = 0 ∧ R.i 34 = 0 ∧ R.i 36 = 1 ∧ R.i 38 = 0) ∧ (∀ n : Nat, (n : Int) < 2 → R.a 49 n = -1) ∧ LC R
theorem PZ.st {s R : CS} {N : Nat} (hN : 1000 ≤ N) (h : PZ s R 2) (hw : WDC s) (x1 : Int32) (h1 : 0 ≤ x1.toInt ∧ x1.toInt ≤ 900) : ok ((f_X6_clear N R).bind fun p21 => f_X9_start N (CS.setI (CS.setI (CS.setI (CS.setI (CS.setI (CS.setI p21.2 32 0) 33 0) 34 0) 36 1) 37 (-1)) 38 0) x1) (fun T => STZ s T.2) := by
  obtain ⟨h2, h3, ⟨h4, h5, h6, h7⟩, h8, h9⟩ := h
  unfold f_X6_clear
  obtain ⟨Y, hY⟩ : ∃ Y, Y = CS.setI (CS.setI (CS.setI (CS.setI R 53 0) 54 0) 55 0) 56 (-1) := ⟨_, rfl⟩
  have y0 : HSM R Y ∧ Y.a = R.a := by rw [hY]; exact ⟨⟨⟨rfl, rfl, rfl, rfl, rfl, rfl, rfl, rfl⟩, rfl⟩, rfl⟩
  have yj : ∀ j : Nat, ¬ (53 ≤ j ∧ j ≤ 56) → Y.i j = R.i j := fun j hj => by
    rw [hY, ci_ne _ _ _ (by omega), ci_ne _ _ _ (by omega), ci_ne _ _ _ (by omega), ci_ne _ _ _ (by omega)]
  have y53 : Y.i 53 = 0 := by rw [hY, ci_ne _ _ _ (by omega), ci_ne _ _ _ (by omega), ci_ne _ _ _ (by omega), ci_at]
  have y56 : Y.i 56 = -1 := by rw [hY, ci_at]
  refine ok_bind (Q := fun p => p.2 = Y) (ok_some hY.symm) (fun p hp => ?_)
  rw [hp]
  clear hY hp
  obtain ⟨Z, hZ⟩ : ∃ Z, Z = CS.setI (CS.setI (CS.setI (CS.setI (CS.setI (CS.setI Y 32 0) 33 0) 34 0) 36 1) 37 (-1)) 38 0 := ⟨_, rfl⟩
  rw [← hZ]
  have z0 : HSM Y Z ∧ Z.a = Y.a := by rw [hZ]; exact ⟨⟨⟨rfl, rfl, rfl, rfl, rfl, rfl, rfl, rfl⟩, rfl⟩, rfl⟩
  have zj : ∀ j : Nat, ¬ (32 ≤ j ∧ j ≤ 38) → Z.i j = Y.i j := fun j hj => by
    rw [hZ, ci_ne _ _ _ (by omega), ci_ne _ _ _ (by omega), ci_ne _ _ _ (by omega), ci_ne _ _ _ (by omega), ci_ne _ _ _ (by omega), ci_ne _ _ _ (by omega)]
  have z32 : Z.i 32 = 0 := by rw [hZ, ci_ne _ _ _ (by omega), ci_ne _ _ _ (by omega), ci_ne _ _ _ (by omega), ci_ne _ _ _ (by omega), ci_ne _ _ _ (by omega), ci_at]
  have z34 : Z.i 34 = 0 := by rw [hZ, ci_ne _ _ _ (by omega), ci_ne _ _ _ (by omega), ci_ne _ _ _ (by omega), ci_at]
  have z36 : Z.i 36 = 1 := by rw [hZ, ci_ne _ _ _ (by omega), ci_ne _ _ _ (by omega), ci_at]
  have z38 : Z.i 38 = 0 := by rw [hZ, ci_at]
  clear hZ
  have hsZ : HSM s Z := (h2.tr y0.1).tr z0.1
  refine ok_imp (q_start hN (hsZ.wd hw) x1 h1) (fun T hT => ?_)
  obtain ⟨⟨⟨t1, t2, t3, t4, t5, t6, t7, t8, t9, t10, t11⟩, tj⟩, tl⟩ := hT
  have ti : ∀ j : Nat, ¬ (41 ≤ j ∧ j ≤ 45) → T.2.i j = Z.i j := fun j hj => by
    rw [tj j (by omega) (by omega) (by omega) (by omega), ci_ne _ _ _ (by omega)]
  have all : ∀ j : Nat, ¬ (41 ≤ j ∧ j ≤ 45) → ¬ (32 ≤ j ∧ j ≤ 38) → ¬ (53 ≤ j ∧ j ≤ 56) → T.2.i j = R.i j := fun j q1 q2 q3 => ((ti j q1).trans (zj j q2)).trans (yj j q3)
  refine ⟨hsZ.tr ⟨⟨t1, t2, t3, t4, t5, t6, t8, t9⟩, by rw [t10]; rfl⟩, ⟨?_, ?_⟩, ⟨?_, ?_, ?_, ?_, ?_⟩, ⟨?_, ?_, ?_, ?_, ?_, ?_⟩, fun n hn => ?_, tl⟩
  · rw [all 13 (by omega) (by omega) (by omega)]; exact h3 13 (by omega) (by omega)
  · rw [all 14 (by omega) (by omega) (by omega)]; exact h3 14 (by omega) (by omega)
  · rw [all 20 (by omega) (by omega) (by omega)]; exact h4
  · rw [all 21 (by omega) (by omega) (by omega)]; exact h5
  · rw [all 22 (by omega) (by omega) (by omega)]; exact h6
  · rw [all 27 (by omega) (by omega) (by omega)]; exact h7
  · rw [all 50 (by omega) (by omega) (by omega)]; exact h8
  · rw [ti 53 (by omega), zj 53 (by omega)]; exact y53
  · rw [ti 56 (by omega), zj 56 (by omega)]; exact y56
  · rw [ti 32 (by omega)]; exact z32
  · rw [ti 34 (by omega)]; exact z34
  · rw [ti 36 (by omega)]; exact z36
  · rw [ti 38 (by omega)]; exact z38
  · have e : T.2.a 49 n = R.a 49 n := by
      rw [t11, ca_setI, z0.2, y0.2]
    rw [e]
    exact h9 n hn
