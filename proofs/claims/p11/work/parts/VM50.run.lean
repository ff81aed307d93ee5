/-! both machines: a whole run from its beginning -/
theorem rz_17 {N : Nat} {x1 x2 : Int32} {U : Int32 × RS} : ∀ (n : Nat) (X : RS) (x3 : Int32), 0 ≤ x3.toInt → (∀ k : Nat, (k : Int) < x3.toInt → X.a 84 k = 0) → f_X12_run_17 N n X x1 x2 x3 = some U → ∃ Y : RS, f_X12_run_39 N N Y x1 x2 0 = some U ∧ Y.i = X.i ∧ (∀ j : Nat, j ≠ 84 → Y.a j = X.a j) ∧ ∀ k : Nat, k < 460 → Y.a 84 k = 0 := by
  intro n
  induction n with
  | zero =>
    intro X x3 _ _ g
    cases g
  | succ n ih =>
    intro X x3 h0 hz g
    have g' : b_X12_run_17 N (f_X12_run_17 N n) X x1 x2 x3 = some U := g
    unfold b_X12_run_17 at g'
    have e4 : (460 : Int32).toInt = 460 := by decide
    by_cases c : (460 : Int32) ≤ x3
    · rw [if_pos c] at g'
      have l := le_int c
      exact ⟨X, g', rfl, fun _ _ => rfl, fun k hk => hz k (by omega)⟩
    · rw [if_neg c] at g'
      have l := lt_int (Int32.not_le.mp c)
      obtain ⟨-, g1⟩ := hf_ite g'
      obtain ⟨k3, hk3⟩ : ∃ k3 : Nat, x3.toInt = (k3 : Int) := ⟨x3.toInt.toNat, by omega⟩
      rw [cl_nat hk3] at g1
      obtain ⟨Y, y1, y2, y3, y4⟩ := ih (RS.setA X 84 k3 0) (x3 + 1) (by rw [ad1 h0 (by omega)]; omega) (fun k hk => by
        rw [ad1 h0 (by omega)] at hk
        by_cases z : k = k3
        · rw [z, setA_at]
        · rw [setA_ne z]
          exact hz k (by omega)) g1
      exact ⟨Y, y1, y2, fun j hj => (y3 j hj).trans (setA_nk hj), y4⟩
theorem rz_39 {N : Nat} {x1 x2 : Int32} {U : Int32 × RS} : ∀ (n : Nat) (X : RS) (x3 : Int32), 0 ≤ x3.toInt → (∀ k : Nat, (k : Int) < x3.toInt → X.a 91 k = 0) → f_X12_run_39 N n X x1 x2 x3 = some U → ∃ Y : RS, f_X12_run_122 N N (RS.setI (RS.setI (RS.setI (RS.setI (RS.setI (RS.setI (RS.setI (RS.setI (RS.setI (RS.setI (RS.setA (RS.setA Y 84 0 x1) 84 1 x2) 80 0) 81 0) 85 0) 95 0) 97 0) 99 0) 93 0) 79 1) 115 0) 92 0) = some U ∧ Y.i = X.i ∧ (∀ j : Nat, j ≠ 91 → Y.a j = X.a j) ∧ ∀ k : Nat, k < 8 → Y.a 91 k = 0 := by
  intro n
  induction n with
  | zero =>
    intro X x3 _ _ g
    cases g
  | succ n ih =>
    intro X x3 h0 hz g
    have g' : b_X12_run_39 N (f_X12_run_39 N n) X x1 x2 x3 = some U := g
    unfold b_X12_run_39 at g'
    have e8 : (8 : Int32).toInt = 8 := by decide
    have z0 : (0 : Int32).toNatClampNeg = 0 := by decide
    have z1 : (1 : Int32).toNatClampNeg = 1 := by decide
    by_cases c : (8 : Int32) ≤ x3
    · rw [if_pos c, z0, z1] at g'
      have l := le_int c
      exact ⟨X, g', rfl, fun _ _ => rfl, fun k hk => hz k (by omega)⟩
    · rw [if_neg c] at g'
      have l := lt_int (Int32.not_le.mp c)
      obtain ⟨-, g1⟩ := hf_ite g'
      obtain ⟨k3, hk3⟩ : ∃ k3 : Nat, x3.toInt = (k3 : Int) := ⟨x3.toInt.toNat, by omega⟩
      rw [cl_nat hk3] at g1
      obtain ⟨Y, y1, y2, y3, y4⟩ := ih (RS.setA X 91 k3 0) (x3 + 1) (by rw [ad1 h0 (by omega)]; omega) (fun k hk => by
        rw [ad1 h0 (by omega)] at hk
        by_cases z : k = k3
        · rw [z, setA_at]
        · rw [setA_ne z]
          exact hz k (by omega)) g1
      exact ⟨Y, y1, y2, fun j hj => (y3 j hj).trans (setA_nk hj), y4⟩
theorem hS_0 {r : RS} (h : ∀ k : Nat, k < 8 → r.a 91 k = 0) : ∀ n : Nat, n ≤ 8 → hS r n = 0
  | 0, _ => rfl
  | n + 1, hn => by
    show hS r n + r.a 91 n = 0
    rw [hS_0 h n (by omega), h n (by omega)]
    decide
theorem rn_both {N H : Nat} (hN : 10000000000 ≤ N) {D : Nat → List Nat} {s : CS} {r : RS} {nm : Nat → Nat → Prop} {AL : Als} {x1 x2 : Int32} {T : Int32 × CS} {U : Int32 × RS} (hr : REFS s) (hm : ROOM H s) (hw : WTC s D) (cod : CODW s (RS.setI r 0 0) nm AL) (tl : TLR s (RS.setI r 0 0)) (n0 : nm 0 0) (n1 : nm 1 1) (nc : ∀ k l : Nat, nm k l → (k : Int) < (s.i 23).toInt) (h77 : ¬ r.i 77 = 0) (e : f_X3_perform N s x1 x2 = some T) (g : f_X12_run N r x1 x2 = some U) : RNZ T.2 U.2 ∧ T.1 = U.1 := by
  obtain ⟨Y, y1, y2, y3, y4, y5⟩ := pf_zero N s 0 (by decide) (PV.rf s) (fun k hk => by rw [z_t0] at hk; omega) (fun _ _ => rfl) rfl e
  obtain ⟨S, c1, ⟨⟨i65, i66, i67, i68, i69, i70, i71⟩, i72, i73⟩, c3, c4, ⟨c5, c6, c7⟩⟩ := pf_start hr hm hw y2 y4 y5 y1
  unfold f_X12_run at g
  rw [if_neg h77] at g
  obtain ⟨X, g1, g2, g3, g4⟩ := rz_17 N (RS.setI r 0 0) 0 (by decide) (fun k hk => by rw [z_t0] at hk; omega) g
  obtain ⟨Z, z1, z2, z3, z4⟩ := rz_39 N X 0 (by decide) (fun k hk => by rw [z_t0] at hk; omega) g1
  obtain ⟨A, hA⟩ : ∃ A, A = RS.setA (RS.setA Z 84 0 x1) 84 1 x2 := ⟨_, rfl⟩
  have Ai : A.i = (RS.setI r 0 0).i := by
    rw [hA]
    show Z.i = _
    rw [z2, g2]
  have Aa : ∀ j : Nat, j ≠ 84 → j ≠ 91 → A.a j = (RS.setI r 0 0).a j := fun j a b => by
    rw [hA, setA_nk a, setA_nk a, z3 j b, g3 j a]
  have A91 : ∀ k : Nat, k < 8 → A.a 91 k = 0 := fun k hk => by
    rw [hA, setA_nk (by decide), setA_nk (by decide)]
    exact z4 k hk
  have A840 : A.a 84 0 = x1 := by rw [hA, setA_ne (by decide), setA_at]
  have A841 : A.a 84 1 = x2 := by rw [hA, setA_at]
  have A84 : ∀ k : Nat, 2 ≤ k → k < 460 → A.a 84 k = 0 := fun k h1 h2 => by
    rw [hA, setA_ne (by omega), setA_ne (by omega), z3 84 (by decide)]
    exact g4 k h2
  rw [← hA] at z1
  clear hA
  obtain ⟨R, hR⟩ : ∃ R, R = RS.setI (RS.setI (RS.setI (RS.setI (RS.setI (RS.setI (RS.setI (RS.setI (RS.setI (RS.setI A 80 0) 81 0) 85 0) 95 0) 97 0) 99 0) 93 0) 79 1) 115 0) 92 0 := ⟨_, rfl⟩
  rw [← hR] at z1
  have Ra : R.a = A.a := by
    rw [hR]
    rfl
  have Ri : ∀ j : Nat, j < 79 → R.i j = A.i j := fun j hj => by rw [hR, ri_ne (by omega), ri_ne (by omega), ri_ne (by omega), ri_ne (by omega), ri_ne (by omega), ri_ne (by omega), ri_ne (by omega), ri_ne (by omega), ri_ne (by omega), ri_ne (by omega)]
  have r92 : R.i 92 = 0 := by rw [hR, ri_at]
  have r115 : R.i 115 = 0 := by rw [hR, ri_ne (by decide), ri_at]
  have r93 : R.i 93 = 0 := by rw [hR, ri_ne (by decide), ri_ne (by decide), ri_ne (by decide), ri_at]
  have r99 : R.i 99 = 0 := by rw [hR, ri_ne (by decide), ri_ne (by decide), ri_ne (by decide), ri_ne (by decide), ri_at]
  have r97 : R.i 97 = 0 := by rw [hR, ri_ne (by decide), ri_ne (by decide), ri_ne (by decide), ri_ne (by decide), ri_ne (by decide), ri_at]
  have r95 : R.i 95 = 0 := by rw [hR, ri_ne (by decide), ri_ne (by decide), ri_ne (by decide), ri_ne (by decide), ri_ne (by decide), ri_ne (by decide), ri_at]
  have r85 : R.i 85 = 0 := by rw [hR, ri_ne (by decide), ri_ne (by decide), ri_ne (by decide), ri_ne (by decide), ri_ne (by decide), ri_ne (by decide), ri_ne (by decide), ri_at]
  have r81 : R.i 81 = 0 := by rw [hR, ri_ne (by decide), ri_ne (by decide), ri_ne (by decide), ri_ne (by decide), ri_ne (by decide), ri_ne (by decide), ri_ne (by decide), ri_ne (by decide), ri_at]
  have r80 : R.i 80 = 0 := by rw [hR, ri_ne (by decide), ri_ne (by decide), ri_ne (by decide), ri_ne (by decide), ri_ne (by decide), ri_ne (by decide), ri_ne (by decide), ri_ne (by decide), ri_ne (by decide), ri_at]
  clear hR
  have rfx : RFX (RS.setI r 0 0) R := ⟨fun j hj => by rw [Ri j hj, Ai], fun k hk => by rw [Ra, Aa k (by omega) (by omega)]⟩
  have zz : (0 : Int32).toInt = ((0 : Nat) : Int) := by decide
  obtain ⟨w, w1, w2⟩ := cod.2.2.2
  have nn := cod.2.1
  have pt : PTX N H D T s (RS.setI r 0 0) nm AL S R (fun b => 3200 + b) 0 0 0 w 0 [] 0 := by
    refine ⟨c1, rfx, ⟨⟨⟨⟨i72, i73⟩, by rw [i66]; exact zz, by rw [r92]; exact zz⟩, ⟨⟨by rw [i65]; exact zz, by rw [r93]; exact zz, by decide⟩, fun k hk => absurd hk (Nat.not_lt_zero k)⟩, ⟨⟨by rw [i70, r80], by rw [r80]; decide, by rw [r80]; decide⟩, ⟨by rw [i69, r81], by rw [r81]; decide⟩, fun k hk => by rw [r81, z_t0] at hk; omega⟩, fun k l hk => ?_⟩, ⟨⟨?_, ⟨?_, ?_⟩, ?_, ⟨?_, ?_⟩, ⟨fun b => Or.inr (Nat.le_add_right _ _), fun b b' h1 => ?_⟩, r115⟩, ⟨by rw [i68, r95], by rw [r95]; decide, by rw [r95]; decide, Nat.zero_le _, fun k hk => by rw [r95, z_t0] at hk; omega, True.intro⟩⟩, ?_⟩, BTP.no (by decide), w2, ?_⟩
    · have q0 := nn.2 k l 0 0 hk n0
      have q1 := nn.2 k l 1 1 hk n1
      obtain ⟨k7, l4⟩ := nn.1 k l hk
      rw [Ra]
      by_cases a : k = 0
      · rw [a, q0.mp a, c5, A840]
      · by_cases b : k = 1
        · rw [b, q1.mp b, c6, A841]
        · have la : l ≠ 0 := fun z => a (q0.mpr z)
          have lb : l ≠ 1 := fun z => b (q1.mpr z)
          rw [c7 k (by omega), y3 k k7 (nc k l hk), A84 l (by omega) l4]
    · show (R.i 97).toInt = 0
      rw [r97]
      exact z_t0
    · rw [i67]
      exact zz
    · rw [r99]
      exact zz
    · rw [i71]
      exact (hS_0 (fun k hk => by rw [Ra]; exact A91 k hk) 8 (Nat.le_refl 8)).symm
    · rw [r85]
      decide
    · rw [r85, r80]
      decide
    · have : ((3200 + b : Nat) : Int) < (R.i 85).toInt := h1
      rw [r85, z_t0] at this
      omega
    · exact tl.of c3 (fun k hk => c4 k (by omega)) rfx
    · rw [r80, z_t0]
      show (0 : Int) + 0 + (w : Int) + 0 ≤ 3990 * 0 + 10000
      omega
  exact sim hN cod (N + 1) N (Nat.lt_succ_self N) S R _ 0 0 0 w 0 [] 0 pt z1
