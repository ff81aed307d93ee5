/-! both readers: where a text begins -/
theorem c_add {N k : Nat} {σ : CS} {x : Int64} {y z : Int32} (h : (σ.i 50).toInt = (k : Int)) (hk : k < 100) : f_X4_add N σ x y z = some ((), CS.setI (CS.setA (CS.setA (CS.setB σ 47 k x) 48 k y) 49 k z) 50 (σ.i 50 + 1)) := by
  have en : (σ.i 50).toNatClampNeg = k := by
    show (σ.i 50).toInt.toNat = k
    rw [h]
    exact Int.toNat_natCast _
  have e128 : (128 : Int32).toInt = 128 := by decide
  unfold f_X4_add
  rw [if_neg (fun q => by
    have := le_int q
    rw [e128, h] at this
    omega), if_pos (show ib (σ.i 50) 128 from ⟨by omega, by omega⟩), en]
/-- the class before its first token -/
def CZ (σ Z : CS) : Prop := HSM σ Z ∧ (Z.a 0 = σ.a 0 ∧ Z.a 9 = σ.a 9 ∧ Z.i 13 = σ.i 13) ∧ (Z.i 21 = 0 ∧ Z.i 22 = 0 ∧ Z.i 24 = 0 ∧ Z.i 25 = 0 ∧ Z.i 26 = 0 ∧ Z.i 50 = 2) ∧ (Z.i 53 = 0 ∧ Z.i 54 = 0 ∧ Z.i 55 = 0 ∧ Z.i 56 = -1) ∧ (Z.i 32 = 0 ∧ Z.i 34 = 0 ∧ Z.i 36 = 1 ∧ Z.i 37 = -1 ∧ Z.i 38 = 0) ∧ (Z.b 47 0 = 97 ∧ Z.b 47 1 = 98 ∧ Z.a 49 0 = -1 ∧ Z.a 49 1 = -1)
/-- the class's cells and names there -/
def CZ2 (Z : CS) : Prop := Z.i 20 = 0 ∧ Z.i 23 = 2 ∧ Z.a 48 0 = 0 ∧ Z.a 48 1 = 1
/-- the reference's -/
def RZ2 (Y : RS) : Prop := Y.i 42 = 2 ∧ Y.i 52 = 0 ∧ Y.a 40 0 = 0 ∧ Y.a 40 1 = 1
set_option maxRecDepth 4000 in
theorem tr_open {N : Nat} {E1 : CS → Option (Unit × CS)} {E2 : CS → Option (Int32 × CS)} {σ : CS} {x1 : Int32} {T : Int32 × CS} (e : f_X7_translate N E1 E2 σ x1 = some T) : ∃ (Z : CS) (A : Unit × CS) (P : Option Nat × CS) (R : Unit × CS), CZ σ Z ∧ f_X9_start N Z x1 = some ((), A.2) ∧ f_X9_advance N (CS.setI (CS.setI Z 41 x1) 42 0) = some A ∧ f_X6_push N A.2 300 0 (A.2.i 50) = some P ∧ f_X7_turns_2 N E1 E2 N P.2 0 0 = some R ∧ (if (R.2.i 37) < 0 then f_X7_translate_139 N E1 E2 R.2 else (f_X1_fail N R.2 7 (R.2.i 37)).bind fun p49 => f_X7_translate_139 N E1 E2 p49.2) = some T ∧ CZ2 Z := by
  unfold f_X7_translate at e
  obtain ⟨p1, e1, e⟩ := hf_bind e
  obtain ⟨p5, e5, e⟩ := hf_bind e
  obtain ⟨p9, e9, e⟩ := hf_bind e
  obtain ⟨p13, e13, e⟩ := hf_bind e
  obtain ⟨p17, e17, e⟩ := hf_bind e
  obtain ⟨p21, e21, e⟩ := hf_bind e
  obtain ⟨p25, e25, e⟩ := hf_bind e
  obtain ⟨p29, e29, e⟩ := hf_bind e
  unfold f_X0_clear at e1
  have h1 := congrArg (fun o => o.map Prod.snd) e1
  have h1' : p1.2 = CS.setI (CS.setI (CS.setI (CS.setI (CS.setI (CS.setI (CS.setI (CS.setI σ 20 0) 21 0) 22 0) 23 0) 24 0) 25 0) 26 0) 27 0 := (Option.some.inj h1).symm
  unfold f_X0_newCells at e5 e13
  have q1 : ∀ j : Nat, j ≠ 20 → j ≠ 21 → j ≠ 22 → j ≠ 23 → j ≠ 24 → j ≠ 25 → j ≠ 26 → j ≠ 27 → p1.2.i j = σ.i j := fun j a1 a2 a3 a4 a5 a6 a7 a8 => by
    rw [h1', ci_ne _ _ _ a8, ci_ne _ _ _ a7, ci_ne _ _ _ a6, ci_ne _ _ _ a5, ci_ne _ _ _ a4, ci_ne _ _ _ a3, ci_ne _ _ _ a2, ci_ne _ _ _ a1]
  have q1z : p1.2.i 21 = 0 ∧ p1.2.i 22 = 0 ∧ p1.2.i 24 = 0 ∧ p1.2.i 25 = 0 ∧ p1.2.i 26 = 0 := by
    rw [h1']
    exact ⟨rfl, rfl, rfl, rfl, rfl⟩
  have q1h : HSM σ p1.2 ∧ p1.2.a = σ.a := by
    rw [h1']
    exact ⟨⟨⟨rfl, rfl, rfl, rfl, rfl, rfl, rfl, rfl⟩, rfl⟩, rfl⟩
  have q1c : p1.2.i 20 = 0 ∧ p1.2.i 23 = 0 := by
    rw [h1']
    exact ⟨rfl, rfl⟩
  clear h1 h1' e1
  have h5 : p5.2 = CS.setI (CS.setI p1.2 50 0) 23 ((CS.setI p1.2 50 0).i 23 + 1) := by rw [← Option.some.inj e5]
  have q5 : ∀ j : Nat, j ≠ 50 → j ≠ 23 → p5.2.i j = p1.2.i j := fun j a1 a2 => by rw [h5, ci_ne _ _ _ a2, ci_ne _ _ _ a1]
  have q5n : p5.2.i 50 = 0 := by rw [h5, ci_ne _ _ _ (by decide), ci_at]
  have q5h : HSM p1.2 p5.2 ∧ p5.2.a = p1.2.a := by
    rw [h5]
    exact ⟨⟨⟨rfl, rfl, rfl, rfl, rfl, rfl, rfl, rfl⟩, rfl⟩, rfl⟩
  have q5c : p5.2.i 23 = 1 ∧ p5.1 = 0 := by
    refine ⟨by rw [h5, ci_at, ci_ne _ _ _ (by decide), q1c.2]; decide, ?_⟩
    have z := congrArg Prod.fst (Option.some.inj e5)
    rw [← z]
    show (CS.setI p1.2 50 0).i 23 + 1 - 1 = 0
    rw [ci_ne _ _ _ (by decide), q1c.2]
    decide
  clear h5 e5
  rw [c_add (k := 0) (by rw [q5n]; decide) (by omega)] at e9
  have h9 : p9.2 = CS.setI (CS.setA (CS.setA (CS.setB p5.2 47 0 97) 48 0 p5.1) 49 0 (-1)) 50 (p5.2.i 50 + 1) := by rw [← Option.some.inj e9]
  have q9 : ∀ j : Nat, j ≠ 50 → p9.2.i j = p5.2.i j := fun j a1 => by
    rw [h9, ci_ne _ _ _ a1]
    rfl
  have q9n : p9.2.i 50 = 1 := by
    rw [h9, ci_at, q5n]
    decide
  have q9h : HSM p5.2 p9.2 ∧ (p9.2.a 0 = p5.2.a 0 ∧ p9.2.a 9 = p5.2.a 9) ∧ p9.2.b 47 0 = 97 ∧ p9.2.a 49 0 = -1 := by
    rw [h9]
    exact ⟨⟨⟨rfl, rfl, rfl, rfl, rfl, rfl, rfl, rfl⟩, rfl⟩, ⟨rfl, rfl⟩, rfl, rfl⟩
  have q9c : p9.2.a 48 0 = 0 := by
    rw [h9, ← q5c.2]
    rfl
  clear h9 e9
  have h13 : p13.2 = CS.setI p9.2 23 (p9.2.i 23 + 1) := by rw [← Option.some.inj e13]
  have q13 : ∀ j : Nat, j ≠ 23 → p13.2.i j = p9.2.i j := fun j a1 => by rw [h13, ci_ne _ _ _ a1]
  have q13h : HSM p9.2 p13.2 ∧ p13.2.a = p9.2.a ∧ p13.2.b = p9.2.b := by
    rw [h13]
    exact ⟨⟨⟨rfl, rfl, rfl, rfl, rfl, rfl, rfl, rfl⟩, rfl⟩, rfl, rfl⟩
  have q13c : p13.2.i 23 = 2 ∧ p13.1 = 1 := by
    refine ⟨by rw [h13, ci_at, q9 23 (by decide), q5c.1]; decide, ?_⟩
    have z := congrArg Prod.fst (Option.some.inj e13)
    rw [← z]
    show p9.2.i 23 + 1 - 1 = 1
    rw [q9 23 (by decide), q5c.1]
    decide
  clear h13 e13
  rw [c_add (k := 1) (by rw [q13 50 (by decide), q9n]; decide) (by omega)] at e17
  have h17 : p17.2 = CS.setI (CS.setA (CS.setA (CS.setB p13.2 47 1 98) 48 1 p13.1) 49 1 (-1)) 50 (p13.2.i 50 + 1) := by rw [← Option.some.inj e17]
  have q17 : ∀ j : Nat, j ≠ 50 → p17.2.i j = p13.2.i j := fun j a1 => by
    rw [h17, ci_ne _ _ _ a1]
    rfl
  have q17n : p17.2.i 50 = 2 := by
    rw [h17, ci_at, q13 50 (by decide), q9n]
    decide
  have q17h : HSM p13.2 p17.2 ∧ (p17.2.a 0 = p13.2.a 0 ∧ p17.2.a 9 = p13.2.a 9) ∧ (p17.2.b 47 0 = p13.2.b 47 0 ∧ p17.2.b 47 1 = 98) ∧ p17.2.a 49 0 = p13.2.a 49 0 ∧ p17.2.a 49 1 = -1 := by
    rw [h17]
    exact ⟨⟨⟨rfl, rfl, rfl, rfl, rfl, rfl, rfl, rfl⟩, rfl⟩, ⟨rfl, rfl⟩, ⟨rfl, rfl⟩, rfl, rfl⟩
  have q17c : p17.2.a 48 0 = p13.2.a 48 0 ∧ p17.2.a 48 1 = 1 := by
    rw [h17, ← q13c.2]
    exact ⟨rfl, rfl⟩
  clear h17 e17
  unfold f_X6_clear at e21
  have h21 : p21.2 = CS.setI (CS.setI (CS.setI (CS.setI p17.2 53 0) 54 0) 55 0) 56 (-1) := by rw [← Option.some.inj e21]
  rw [h21] at e25
  obtain ⟨Z, hZ⟩ : ∃ Z, Z = CS.setI (CS.setI (CS.setI (CS.setI (CS.setI (CS.setI (CS.setI (CS.setI (CS.setI (CS.setI p17.2 53 0) 54 0) 55 0) 56 (-1)) 32 0) 33 0) 34 0) 36 1) 37 (-1)) 38 0 := ⟨_, rfl⟩
  rw [← hZ] at e25
  have z : ∀ j : Nat, ¬ (53 ≤ j ∧ j ≤ 56) → ¬ (32 ≤ j ∧ j ≤ 38) → Z.i j = p17.2.i j := fun j a1 a2 => by
    rw [hZ, ci_ne _ _ _ (by omega), ci_ne _ _ _ (by omega), ci_ne _ _ _ (by omega), ci_ne _ _ _ (by omega), ci_ne _ _ _ (by omega), ci_ne _ _ _ (by omega), ci_ne _ _ _ (by omega), ci_ne _ _ _ (by omega), ci_ne _ _ _ (by omega), ci_ne _ _ _ (by omega)]
  have zv : (Z.i 53 = 0 ∧ Z.i 54 = 0 ∧ Z.i 55 = 0 ∧ Z.i 56 = -1) ∧ (Z.i 32 = 0 ∧ Z.i 34 = 0 ∧ Z.i 36 = 1 ∧ Z.i 37 = -1 ∧ Z.i 38 = 0) := by
    rw [hZ]
    exact ⟨⟨rfl, rfl, rfl, rfl⟩, rfl, rfl, rfl, rfl, rfl⟩
  have zh : HSM p17.2 Z ∧ Z.a = p17.2.a ∧ Z.b = p17.2.b := by
    rw [hZ]
    exact ⟨⟨⟨rfl, rfl, rfl, rfl, rfl, rfl, rfl, rfl⟩, rfl⟩, rfl, rfl⟩
  clear hZ h21 e21
  have e25' := e25
  unfold f_X9_start at e25
  obtain ⟨A, eA, e25⟩ := hf_bind e25
  have eq : p25 = ((), A.2) := (Option.some.inj e25).symm
  rw [eq] at e29 e25'
  have down : ∀ j : Nat, j ≠ 50 → j ≠ 23 → ¬ (53 ≤ j ∧ j ≤ 56) → ¬ (32 ≤ j ∧ j ≤ 38) → Z.i j = p1.2.i j := fun j a1 a2 a3 a4 => by
    rw [z j a3 a4, q17 j a1, q13 j a2, q9 j a1, q5 j a1 a2]
  have fin : f_X7_turns_2 N E1 E2 N p29.2 0 0 = none ∨ ∃ R, f_X7_turns_2 N E1 E2 N p29.2 0 0 = some R := by
    cases f_X7_turns_2 N E1 E2 N p29.2 0 0 with
    | none => exact Or.inl rfl
    | some R => exact Or.inr ⟨R, rfl⟩
  have e' : ((f_X7_turns N E1 E2 p29.2 0).bind fun p44 => (if (p44.2.i 37) < 0 then f_X7_translate_139 N E1 E2 p44.2 else (f_X1_fail N p44.2 7 (p44.2.i 37)).bind fun p49 => f_X7_translate_139 N E1 E2 p49.2)) = some T := by
    cases ha : p29.1 with
    | none =>
      rw [ha] at e
      exact e
    | some a =>
      rw [ha] at e
      exact e
  obtain ⟨R, eR, e'⟩ := hf_bind e'
  refine ⟨Z, A, p29, R, ⟨((((q1h.1.tr q5h.1).tr q9h.1).tr q13h.1).tr q17h.1).tr zh.1, ⟨?_, ?_, ?_⟩, ⟨?_, ?_, ?_, ?_, ?_, ?_⟩, zv.1, zv.2, ?_, ?_, ?_, ?_⟩, e25', eA, e29, eR, e', ?_, ?_, ?_, ?_⟩
  · rw [zh.2.1, q17h.2.1.1, q13h.2.1, q9h.2.1.1, q5h.2, q1h.2]
  · rw [zh.2.1, q17h.2.1.2, q13h.2.1, q9h.2.1.2, q5h.2, q1h.2]
  · rw [down 13 (by decide) (by decide) (by omega) (by omega), q1 13 (by decide) (by decide) (by decide) (by decide) (by decide) (by decide) (by decide) (by decide)]
  · rw [down 21 (by decide) (by decide) (by omega) (by omega)]
    exact q1z.1
  · rw [down 22 (by decide) (by decide) (by omega) (by omega)]
    exact q1z.2.1
  · rw [down 24 (by decide) (by decide) (by omega) (by omega)]
    exact q1z.2.2.1
  · rw [down 25 (by decide) (by decide) (by omega) (by omega)]
    exact q1z.2.2.2.1
  · rw [down 26 (by decide) (by decide) (by omega) (by omega)]
    exact q1z.2.2.2.2
  · rw [z 50 (by omega) (by omega)]
    exact q17n
  · rw [zh.2.2, q17h.2.2.1.1, q13h.2.2]
    exact q9h.2.2.1
  · rw [zh.2.2]
    exact q17h.2.2.1.2
  · rw [zh.2.1, q17h.2.2.2.1, q13h.2.1]
    exact q9h.2.2.2
  · rw [zh.2.1]
    exact q17h.2.2.2.2
  · rw [down 20 (by decide) (by decide) (by omega) (by omega)]
    exact q1c.1
  · rw [z 23 (by omega) (by omega), q17 23 (by decide)]
    exact q13c.1
  · rw [zh.2.1, q17c.1, q13h.2.1]
    exact q9c
  · rw [zh.2.1]
    exact q17c.2
/-- the reference before its first token -/
def RZB (r Y : RS) : Prop := (Y.i 2 = r.i 2 ∧ Y.i 3 = r.i 3 ∧ Y.i 8 = r.i 8 ∧ Y.a 1 = r.a 1 ∧ Y.a 4 = r.a 4 ∧ Y.b 9 = r.b 9) ∧ (Y.i 38 = 2 ∧ Y.i 43 = 0 ∧ Y.i 19 = 0 ∧ Y.i 53 = 0 ∧ Y.i 54 = 0 ∧ Y.i 55 = 0) ∧ (Y.i 20 = 0 ∧ Y.i 24 = 0 ∧ Y.i 29 = 0 ∧ Y.i 33 = 0 ∧ Y.i 56 = 0 ∧ Y.i 59 = 0) ∧ (Y.i 12 = 0 ∧ Y.i 15 = 0 ∧ Y.i 18 = -1 ∧ Y.i 17 = 0) ∧ (Y.b 39 0 = 97 ∧ Y.b 39 1 = 98 ∧ Y.a 41 0 = 0 ∧ Y.a 41 1 = 0)
theorem r_see {N k : Nat} {σ : RS} {x : Int64} {V : Int32 × RS} (h : (σ.i 38).toInt = (k : Int)) (e : f_X12_see N σ x 0 = some V) : V.2 = RS.setI (RS.setI (RS.setA (RS.setA (RS.setB σ 39 k x) 40 k (σ.i 42)) 41 k 0) 38 (σ.i 38 + 1)) 42 (σ.i 42 + 1) := by
  have en : (σ.i 38).toNatClampNeg = k := by
    show (σ.i 38).toInt.toNat = k
    rw [h]
    exact Int.toNat_natCast _
  unfold f_X12_see at e
  obtain ⟨-, e⟩ := hf_ite e
  rw [en] at e
  rw [← Option.some.inj e]
  rfl
set_option maxRecDepth 4000 in
theorem rd_open {N : Nat} {r : RS} {U : Int32 × RS} (g : f_X12_read N r = some U) : ∃ Y q V p7 : RS, RZB r Y ∧ f_X12_next N Y = some q ∧ f_X12_push N (RS.setI q 63 (-1)) 1 = some V ∧ f_X12_parse_10 N N V = some p7 ∧ (if (p7.i 10) = 0 then (f_X12_can N p7 1).bind fun p19 => f_X12_read_138 N p19.2 else (f_X12_can N p7 0).bind fun p10 => f_X12_read_138 N p10.2) = some U ∧ RZ2 Y := by
  unfold f_X12_read at g
  obtain ⟨X, hX⟩ : ∃ X, X = RS.setI (RS.setI (RS.setI (RS.setI (RS.setI (RS.setI (RS.setI (RS.setI (RS.setI (RS.setI (RS.setI (RS.setI (RS.setI (RS.setI (RS.setI (RS.setI (RS.setI (RS.setI (RS.setI r 0 0) 38 0) 42 0) 43 0) 19 0) 53 0) 54 0) 55 0) 20 0) 24 0) 29 0) 33 0) 56 0) 59 0) 52 0) 12 0) 15 0) 18 (-1)) 17 0 := ⟨_, rfl⟩
  rw [← hX] at g
  have x0 : (X.i 2 = r.i 2 ∧ X.i 3 = r.i 3 ∧ X.i 8 = r.i 8 ∧ X.a 1 = r.a 1 ∧ X.a 4 = r.a 4 ∧ X.b 9 = r.b 9) ∧ (X.i 38 = 0 ∧ X.i 43 = 0 ∧ X.i 19 = 0 ∧ X.i 53 = 0 ∧ X.i 54 = 0 ∧ X.i 55 = 0) ∧ (X.i 20 = 0 ∧ X.i 24 = 0 ∧ X.i 29 = 0 ∧ X.i 33 = 0 ∧ X.i 56 = 0 ∧ X.i 59 = 0) ∧ (X.i 12 = 0 ∧ X.i 15 = 0 ∧ X.i 18 = -1 ∧ X.i 17 = 0) := by
    rw [hX]
    exact ⟨⟨rfl, rfl, rfl, rfl, rfl, rfl⟩, ⟨rfl, rfl, rfl, rfl, rfl, rfl⟩, ⟨rfl, rfl, rfl, rfl, rfl, rfl⟩, rfl, rfl, rfl, rfl⟩
  have x4 : X.i 42 = 0 ∧ X.i 52 = 0 := by
    rw [hX]
    exact ⟨rfl, rfl⟩
  clear hX
  obtain ⟨p1, g1, g⟩ := hf_bind g
  obtain ⟨p3, g3, g⟩ := hf_bind g
  obtain ⟨q, gq, g⟩ := hf_bind g
  obtain ⟨p7, g7, g⟩ := hf_bind g
  unfold f_X12_parse at g7
  obtain ⟨V, gV, g7⟩ := hf_bind g7
  obtain ⟨xa, xb, xc, xd⟩ := x0
  have y1 := r_see (k := 0) (by rw [xb.1]; decide) g1
  have i1 : ∀ j : Nat, j ≠ 38 → j ≠ 42 → p1.2.i j = X.i j := fun j a1 a2 => by
    rw [y1, ri_ne a2, ri_ne a1]
    rfl
  have n1 : p1.2.i 38 = 1 := by
    rw [y1, ri_ne (by decide), ri_at, xb.1]
    decide
  have t1 : (p1.2.a 1 = X.a 1 ∧ p1.2.a 4 = X.a 4 ∧ p1.2.b 9 = X.b 9) ∧ p1.2.b 39 0 = 97 ∧ p1.2.a 41 0 = 0 := by
    rw [y1]
    exact ⟨⟨rfl, rfl, rfl⟩, rfl, rfl⟩
  have t4 : p1.2.a 40 0 = 0 ∧ p1.2.i 42 = 1 := by
    rw [y1]
    exact ⟨x4.1, by rw [ri_at, x4.1]; decide⟩
  clear y1
  have y3 := r_see (k := 1) (by rw [n1]; decide) g3
  have i3 : ∀ j : Nat, j ≠ 38 → j ≠ 42 → p3.2.i j = p1.2.i j := fun j a1 a2 => by
    rw [y3, ri_ne a2, ri_ne a1]
    rfl
  have n3 : p3.2.i 38 = 2 := by
    rw [y3, ri_ne (by decide), ri_at, n1]
    decide
  have t3 : (p3.2.a 1 = p1.2.a 1 ∧ p3.2.a 4 = p1.2.a 4 ∧ p3.2.b 9 = p1.2.b 9) ∧ (p3.2.b 39 0 = p1.2.b 39 0 ∧ p3.2.b 39 1 = 98) ∧ p3.2.a 41 0 = p1.2.a 41 0 ∧ p3.2.a 41 1 = 0 := by
    rw [y3]
    exact ⟨⟨rfl, rfl, rfl⟩, ⟨rfl, rfl⟩, rfl, rfl⟩
  have t5 : p3.2.a 40 0 = p1.2.a 40 0 ∧ p3.2.a 40 1 = 1 ∧ p3.2.i 42 = 2 := by
    rw [y3]
    exact ⟨rfl, t4.2, by rw [ri_at, t4.2]; decide⟩
  clear y3
  have I : ∀ j : Nat, j ≠ 38 → j ≠ 42 → p3.2.i j = X.i j := fun j a1 a2 => (i3 j a1 a2).trans (i1 j a1 a2)
  refine ⟨p3.2, q, V, p7, ⟨⟨?_, ?_, ?_, ?_, ?_, ?_⟩, ⟨n3, ?_, ?_, ?_, ?_, ?_⟩, ⟨?_, ?_, ?_, ?_, ?_, ?_⟩, ⟨?_, ?_, ?_, ?_⟩, ⟨?_, t3.2.1.2, ?_, t3.2.2.2⟩⟩, gq, gV, g7, g, t5.2.2, by rw [I 52 (by decide) (by decide)]; exact x4.2, by rw [t5.1]; exact t4.1, t5.2.1⟩
  · rw [I 2 (by decide) (by decide)]; exact xa.1
  · rw [I 3 (by decide) (by decide)]; exact xa.2.1
  · rw [I 8 (by decide) (by decide)]; exact xa.2.2.1
  · rw [t3.1.1, t1.1.1]; exact xa.2.2.2.1
  · rw [t3.1.2.1, t1.1.2.1]; exact xa.2.2.2.2.1
  · rw [t3.1.2.2, t1.1.2.2]; exact xa.2.2.2.2.2
  · rw [I 43 (by decide) (by decide)]; exact xb.2.1
  · rw [I 19 (by decide) (by decide)]; exact xb.2.2.1
  · rw [I 53 (by decide) (by decide)]; exact xb.2.2.2.1
  · rw [I 54 (by decide) (by decide)]; exact xb.2.2.2.2.1
  · rw [I 55 (by decide) (by decide)]; exact xb.2.2.2.2.2
  · rw [I 20 (by decide) (by decide)]; exact xc.1
  · rw [I 24 (by decide) (by decide)]; exact xc.2.1
  · rw [I 29 (by decide) (by decide)]; exact xc.2.2.1
  · rw [I 33 (by decide) (by decide)]; exact xc.2.2.2.1
  · rw [I 56 (by decide) (by decide)]; exact xc.2.2.2.2.1
  · rw [I 59 (by decide) (by decide)]; exact xc.2.2.2.2.2
  · rw [I 12 (by decide) (by decide)]; exact xd.1
  · rw [I 15 (by decide) (by decide)]; exact xd.2.1
  · rw [I 18 (by decide) (by decide)]; exact xd.2.2.1
  · rw [I 17 (by decide) (by decide)]; exact xd.2.2.2
  · rw [t3.2.1.1]; exact t1.2.1
  · rw [t3.2.2.1]; exact t1.2.2
