/-! both readers: a whole text -/
theorem rd_199 {N : Nat} {s : RS} {U : Int32 × RS} (g : f_X12_read_199 N s = some U) (j : Nat) (h1 : j ≠ 79) (h2 : j ≠ 81) : U.2.i j = s.i j := by
  unfold f_X12_read_199 at g
  by_cases c : s.i 15 = 0
  · rw [if_pos c] at g
    rw [← Option.some.inj g]
    show (RS.setI (RS.setI s 79 0) 81 0).i j = s.i j
    rw [ri_ne h2, ri_ne h1]
  · rw [if_neg c] at g
    rw [← Option.some.inj g]
    show (RS.setI (RS.setI s 79 0) 81 0).i j = s.i j
    rw [ri_ne h2, ri_ne h1]
theorem rd_167 {N : Nat} {s : RS} {U : Int32 × RS} (g : f_X12_read_167 N s = some U) : (s.i 15 = 0 → U.2.i 77 = 1) ∧ (¬ s.i 15 = 0 → U.2.i 77 = 0) ∧ U.2.i 78 = s.i 75 ∧ U.2.i 53 = s.i 53 ∧ U.2.i 54 = s.i 54 ∧ U.2.i 55 = s.i 55 := by
  unfold f_X12_read_167 at g
  obtain ⟨-, g⟩ := hf_ite g
  have go : ∀ v : Int32, f_X12_read_199 N (RS.setI (RS.setI (RS.setI s 78 (s.i 75)) 76 (s.i 15)) 77 v) = some U → U.2.i 77 = v ∧ U.2.i 78 = s.i 75 ∧ U.2.i 53 = s.i 53 ∧ U.2.i 54 = s.i 54 ∧ U.2.i 55 = s.i 55 := fun v q => by
    have z := rd_199 q
    rw [z 77 (by decide) (by decide), z 78 (by decide) (by decide), z 53 (by decide) (by decide), z 54 (by decide) (by decide), z 55 (by decide) (by decide)]
    exact ⟨rfl, rfl, rfl, rfl, rfl⟩
  by_cases c : s.i 15 = 0
  · rw [if_pos c] at g
    obtain ⟨z1, z2⟩ := go 1 g
    exact ⟨fun _ => z1, fun q => absurd c q, z2⟩
  · rw [if_neg c] at g
    obtain ⟨z1, z2⟩ := go 0 g
    exact ⟨fun q => absurd q c, fun _ => z1, z2⟩
theorem rd_flt {N : Nat} {s : RS} {U : Int32 × RS} (h : ¬ s.i 15 = 0) (g : f_X12_read_138 N s = some U) : U.2.i 77 = 0 := by
  unfold f_X12_read_138 at g
  rw [if_neg h] at g
  exact (rd_167 g).2.1 h
/-- the class's end -/
theorem trl_end {N : Nat} {E1 : CS → Option (Unit × CS)} {E2 : CS → Option (Int32 × CS)} {R : CS} {p : Int32 × CS} (e : (if (R.i 37) < 0 then f_X7_translate_139 N E1 E2 R else (f_X1_fail N R 7 (R.i 37)).bind fun p49 => f_X7_translate_139 N E1 E2 p49.2) = some p) : (R.i 37 < 0 → p = (R.i 32, R)) ∧ (¬ R.i 37 < 0 → ¬ p.1 = 0) ∧ (¬ R.i 32 = 0 → ¬ p.1 = 0) := by
  unfold f_X7_translate_139 at e
  by_cases c : R.i 37 < 0
  · rw [if_pos c] at e
    have z := (Option.some.inj e).symm
    refine ⟨fun _ => z, fun q => absurd c q, fun q => ?_⟩
    rw [z]
    exact q
  · rw [if_neg c] at e
    obtain ⟨w, ew, e⟩ := hf_bind e
    have z := (Option.some.inj e).symm
    have f := y_fail (by decide) ew
    refine ⟨fun q => absurd q c, fun _ => ?_, fun _ => ?_⟩
    · rw [z]
      exact f
    · rw [z]
      exact f
/-- what a read leaves: the same program told, or none -/
def PRG (σ : CS) (r : RS) : Prop := (σ.i 7 = 0 ∧ r.i 77 = 0) ∨ ((¬ σ.i 7 = 0 ∧ ¬ r.i 77 = 0) ∧ σ.i 24 = r.i 53 ∧ σ.i 25 = r.i 54 ∧ σ.i 26 = r.i 55 ∧ (σ.i 27 = 0 ↔ r.i 78 = 0))
/-- the rest of read's end leaves the code -/
theorem rd_199a {N : Nat} {s : RS} {U : Int32 × RS} (g : f_X12_read_199 N s = some U) : U.2.a = s.a := by
  unfold f_X12_read_199 at g
  by_cases c : s.i 15 = 0
  · rw [if_pos c] at g
    rw [← Option.some.inj g]
    rfl
  · rw [if_neg c] at g
    rw [← Option.some.inj g]
    rfl
theorem rd_167a {N : Nat} {s : RS} {U : Int32 × RS} (g : f_X12_read_167 N s = some U) : U.2.a = s.a ∧ ∀ j : Nat, ¬ (76 ≤ j ∧ j ≤ 81) → U.2.i j = s.i j := by
  unfold f_X12_read_167 at g
  obtain ⟨-, g⟩ := hf_ite g
  have go : ∀ v : Int32, f_X12_read_199 N (RS.setI (RS.setI (RS.setI s 78 (s.i 75)) 76 (s.i 15)) 77 v) = some U → U.2.a = s.a ∧ ∀ j : Nat, ¬ (76 ≤ j ∧ j ≤ 81) → U.2.i j = s.i j := fun v q => ⟨by
    rw [rd_199a q]
    rfl, fun j hj => by rw [rd_199 q j (by omega) (by omega), ri_ne (by omega), ri_ne (by omega), ri_ne (by omega)]⟩
  by_cases c : s.i 15 = 0
  · rw [if_pos c] at g
    exact go 1 g
  · rw [if_neg c] at g
    exact go 0 g
/-- both codes belong together -/
def CDX (s0 : CS) (r0 : RS) : Prop := ∃ (nm : Nat → Nat → Prop) (AL : Als), CODW s0 r0 nm AL ∧ nm 0 0 ∧ nm 1 1 ∧ ∀ k l : Nat, nm k l → (k : Int) < (s0.i 23).toInt
/-- at a read's end: the states that hold both codes -/
def RDC (T : CS) (U : RS) : Prop := ∃ (s0 : CS) (r0 : RS), CDX s0 r0 ∧ (T.a = s0.a ∧ ∀ j : Nat, j ≠ 6 → j ≠ 7 → T.i j = s0.i j) ∧ U.a = r0.a ∧ ∀ j : Nat, j ≠ 2 → ¬ (76 ≤ j ∧ j ≤ 81) → U.i j = r0.i j
theorem cdx_of {W R : CS} {b U : RS} (rsb : RSB W b) (fcd : FCD W b R U) (u18 : U.i 18 < 0) (h42 : (U.i 42).toInt ≤ 460) : CDX R U := by
  obtain ⟨crW, slb, b11, ⟨pW, pb⟩, ⟨w23, b42⟩, ng⟩ := rsb
  obtain ⟨FC, M, ⟨l23, h23⟩, ⟨gm1, gm2⟩, main⟩ := fcd crW slb u18 b11
  rw [w23, b42] at gm1
  rw [w23] at l23
  obtain ⟨nm, hnm⟩ : ∃ nm : Nat → Nat → Prop, nm = fun k l => M k l ∨ (k = l ∧ k < 2) := ⟨_, rfl⟩
  have nk : ∀ k l : Nat, nm k l ↔ (M k l ∨ (k = l ∧ k < 2)) := fun k l => by rw [hnm]
  clear hnm
  have n0 : nm 0 0 := (nk 0 0).mpr (Or.inr ⟨rfl, by omega⟩)
  have n1 : nm 1 1 := (nk 1 1).mpr (Or.inr ⟨rfl, by omega⟩)
  have gu := main nm (fun k l h => ⟨fun z => ((nk k l).mp z).resolve_right (fun q => by
    rw [w23, b42] at h
    omega), fun z => (nk k l).mpr (Or.inl z)⟩) (ng nm n0 n1)
  rw [pW, pb] at gu
  have nn : NMP nm := by
    refine ⟨fun c l h => ?_, fun c l c' l' h h' => ?_⟩
    · rcases (nk c l).mp h with z | ⟨z, z'⟩
      · obtain ⟨⟨z1, z2⟩, z3, z4⟩ := gm1 c l z
        omega
      · omega
    · rcases (nk c l).mp h with z | ⟨z, z'⟩ <;> rcases (nk c' l').mp h' with y | ⟨y, y'⟩
      · exact gm2 c l c' l' z y
      · obtain ⟨⟨z1, z2⟩, z3, z4⟩ := gm1 c l z
        omega
      · obtain ⟨⟨z1, z2⟩, z3, z4⟩ := gm1 c' l' y
        omega
      · omega
  obtain ⟨AL, cod⟩ := cod_of nn (w := 1300 - 0) (by omega) (gu.1.resolve_right id)
  refine ⟨nm, AL, cod, n0, n1, fun k l h => ?_⟩
  rcases (nk k l).mp h with z | ⟨z, z'⟩
  · exact (gm1 k l z).1.2
  · omega
theorem rd_both {N : Nat} (hN : 1000 ≤ N) {h0 : Nat} {σ : CS} {r : RS} (hc : CIV h0 σ) (hr : RB r) (ht : TXB σ r) {T : Int32 × CS} {U : Int32 × RS} (e : f_X11_read N (fEE N 23).1 (fEE N 23).2 σ = some T) (g : f_X12_read N r = some U) : PRG T.2 U.2 ∧ (¬ T.2.i 7 = 0 → (U.2.i 42).toInt ≤ 460 → RDC T.2 U.2) := by
  unfold f_X11_read at e
  obtain ⟨p1, e1, e⟩ := hf_bind e
  have eT : (p1.1 = 0 → T.2 = CS.setI (CS.setI p1.2 6 p1.1) 7 1) ∧ (¬ p1.1 = 0 → T.2 = CS.setI (CS.setI p1.2 6 p1.1) 7 0) := by
    have z : ∀ X : CS, f_X11_read_43 N (fEE N 23).1 (fEE N 23).2 X = some T → T.2 = X := fun X q => by
      unfold f_X11_read_43 at q
      by_cases c : X.i 7 = 0
      · rw [if_pos c] at q
        rw [← Option.some.inj q]
      · rw [if_neg c] at q
        rw [← Option.some.inj q]
    refine ⟨fun q => ?_, fun q => ?_⟩
    · rw [if_pos q] at e
      exact z _ e
    · rw [if_neg q] at e
      exact z _ e
  have T0 : ¬ p1.1 = 0 → T.2.i 7 = 0 := fun q => by rw [eT.2 q, ci_at]
  obtain ⟨Z, A, P, R, cz, es, eA, eP, eR, e1, cz2⟩ := tr_open e1
  obtain ⟨Y, q, V, p7, rz, gq, gV, g7, g, rz2⟩ := rd_open g
  obtain ⟨b, c, sti, ⟨bi, rsb⟩, h53, h56⟩ := rt_start hN hc hr ht cz es eA eP rz gq gV cz2 rz2
  have hY : YBA RBA p7 P.2 b := fun z => absurd z (by rw [h56]; decide)
  have mA : JBM p7 RBA := fun _ _ _ _ _ _ _ _ _ _ => True.intro
  have hU : KU3 p7 b := by
    obtain ⟨x, hC, -⟩ := sti p7
    have u3 : p7.i 3 = V.i 3 := (kln_f_X12_parse_10 N N V p7 g7).2
    exact ⟨by rw [u3, bi 3 (by decide)], by rw [u3]; exact hC.1.2.2.2.2.2.1.2.2.2.1.1⟩
  have L := tn_loop hN (kFEE N 23).1 (kFEE N 23).2 (sx_EE hN 23).1 (sx_EE hN 23).2 hY mA hU (d := 0) (B := P.2) (b := b) (t0 := 0) (n0 := 0) (x1 := 0) (U := p7) (Q := fun R' => QRT 0 P.2 b p7 R') z_t0 (by rw [h53]; rfl) (fun S s c' m P' h' tk k g' => Or.inr (rt_end hN h' h56 tk k g')) N P.2 0 R eR (Or.inl ⟨N, V, c, [], g7, sti p7⟩)
  obtain ⟨d1, d2, d3⟩ := trl_end e1
  have gf : ¬ p7.i 15 = 0 ∨ ¬ p7.i 10 = 0 → U.2.i 77 = 0 := fun z => by
    by_cases c0 : p7.i 10 = 0
    · rw [if_pos c0] at g
      obtain ⟨w, gw, g⟩ := hf_bind g
      have z' := z.resolve_right (fun y => y c0)
      rw [e_can, if_pos z'] at gw
      refine rd_flt ?_ g
      rw [← Option.some.inj gw]
      exact z'
    · rw [if_neg c0] at g
      obtain ⟨w, gw, g⟩ := hf_bind g
      exact rd_flt (y_can0 gw).2 g
  rcases L with ⟨z1, z2⟩ | ⟨z1, z2⟩ | ⟨z32, ⟨z15, z10⟩, ⟨z24, z26, z25⟩, ⟨z27, -⟩, z37, fcd⟩
  · exact ⟨Or.inl ⟨T0 (d3 z1), gf (Or.inl z2)⟩, fun z => absurd (T0 (d3 z1)) z⟩
  · exact ⟨Or.inl ⟨T0 (d3 z1), gf (Or.inr z2)⟩, fun z => absurd (T0 (d3 z1)) z⟩
  rw [if_pos z10, y_can1 z15 (by rw [z10]; decide), ob_some] at g
  have g' : f_X12_read_138 N p7 = some U := g
  unfold f_X12_read_138 at g'
  rw [if_pos z15] at g'
  by_cases c37 : R.2.i 37 < 0
  · refine ⟨Or.inr ?_, ?_⟩
    rotate_left
    · intro _ h42
      have c18 : p7.i 18 < 0 := Int32.lt_iff_toInt_lt.mpr (by
        have h1 := lt_int c37
        rw [z_t0] at h1 ⊢
        by_cases w : 0 ≤ (p7.i 18).toInt
        · have := z37.mpr w
          omega
        · omega)
      rw [if_pos c18] at g'
      obtain ⟨ua, ui⟩ := rd_167a g'
      have hp := d1 c37
      have eT' := eT.1 (by rw [hp]; exact z32)
      rw [hp] at eT'
      have ui' : ∀ j : Nat, j ≠ 2 → ¬ (76 ≤ j ∧ j ≤ 81) → U.2.i j = p7.i j := fun j h1 h2 => by rw [ui j h2, ri_ne h1]
      refine ⟨R.2, p7, cdx_of rsb fcd c18 (by rw [← ui' 42 (by decide) (by omega)]; exact h42), ⟨by rw [eT']; rfl, fun j h1 h2 => by rw [eT', ci_ne _ _ _ h2, ci_ne _ _ _ h1]⟩, by rw [ua]; rfl, ui'⟩
    have c18 : p7.i 18 < 0 := Int32.lt_iff_toInt_lt.mpr (by
      have h1 := lt_int c37
      rw [z_t0] at h1 ⊢
      by_cases w : 0 ≤ (p7.i 18).toInt
      · have := z37.mpr w
        omega
      · omega)
    rw [if_pos c18] at g'
    obtain ⟨u1, -, u78, u53, u54, u55⟩ := rd_167 g'
    have hp := d1 c37
    have eT' := eT.1 (by rw [hp]; exact z32)
    rw [hp] at eT'
    have Ti : ∀ j : Nat, j ≠ 6 → j ≠ 7 → T.2.i j = R.2.i j := fun j h1 h2 => by rw [eT', ci_ne _ _ _ h2, ci_ne _ _ _ h1]
    have pi : ∀ j : Nat, j ≠ 2 → (RS.setI p7 2 0).i j = p7.i j := fun j hj => ri_ne hj
    refine ⟨⟨?_, ?_⟩, ?_, ?_, ?_, ?_⟩
    · rw [eT', ci_at]
      decide
    · rw [u1 ((pi 15 (by decide)).trans z15)]
      decide
    · rw [Ti 24 (by decide) (by decide), u53, pi 53 (by decide)]
      exact z24
    · rw [Ti 25 (by decide) (by decide), u54, pi 54 (by decide), ← z25]
      exact (Int32.add_zero _).symm
    · rw [Ti 26 (by decide) (by decide), u55, pi 55 (by decide)]
      exact z26
    · rw [Ti 27 (by decide) (by decide), u78, pi 75 (by decide), z27]
  · refine ⟨Or.inl ?_, fun z => absurd (T0 (d2 c37)) z⟩
    have c18 : ¬ p7.i 18 < 0 := fun q => c37 (Int32.lt_iff_toInt_lt.mpr (by
      have h1 := lt_int q
      rw [z_t0] at h1 ⊢
      by_cases w : 0 ≤ (R.2.i 37).toInt
      · have := z37.mp w
        omega
      · omega))
    rw [if_neg c18] at g'
    obtain ⟨w, gw, g'⟩ := hf_bind g'
    refine ⟨T0 (d2 c37), (rd_167 g').2.1 ?_⟩
    unfold f_X12_fail at gw
    rw [if_pos (show (RS.setI p7 2 0).i 15 = 0 from z15)] at gw
    rw [← Option.some.inj gw]
    show ¬ (7 : Int32) = 0
    decide
