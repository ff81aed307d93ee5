/-! both machines: what a switch chooses -/
theorem xi_34 {N : Nat} {s : CS} {R : Unit × CS} (h : cOp s = 34) (e : f_X3_instruction N s = some R) : R.2 = if cTp (cPo s) = cTp s then CS.setI (cPo (cPo (cNx s))) 66 (cTg s (cAr s)) else cPo (cNx s) := by
  have z := xi_ste (by rw [h]; decide) (by rw [h]; decide) (by rw [h]; decide) e
  rw [h] at z
  unfold f_X3_steer at z
  rw [if_neg (by decide), if_neg (by decide), if_neg (by decide), if_neg (by decide), if_pos rfl] at z
  have z1 := ob_un z
  unfold f_X3_compareCase at z1
  rw [e_cPo, ob_some] at z1
  by_cases c : cTp (cPo s) = cTp s
  · rw [if_pos c]
    have z2 := (if_pos (show gAt ((cPo (cNx s)).a 60) 600 ((cPo (cNx s)).i 65 - 1) = cTp (cNx s) from c)).symm.trans z1
    rw [e_cPo, ob_some] at z2
    rw [← Option.some.inj z2]
    rfl
  · rw [if_neg c]
    have z2 := (if_neg (show ¬ gAt ((cPo (cNx s)).a 60) 600 ((cPo (cNx s)).i 65 - 1) = cTp (cNx s) from c)).symm.trans z1
    rw [← Option.some.inj z2]
/-- the class's rows of a switch -/
def DSP (s0 : CS) (d n : Nat) : Prop := d + 2 * n + 1 < 1200 ∧ (∀ i : Nat, i < n → s0.a 15 (d + 2 * i) = 0 ∧ s0.a 15 (d + 2 * i + 1) = 34) ∧ s0.a 15 (d + 2 * n) = 6 ∧ s0.a 15 (d + 2 * n + 1) = 30
/-- values above the height, place and height alone change -/
def E65 (s S : CS) (h : Nat) : Prop := (∀ j : Nat, j ≠ 65 → j ≠ 66 → S.i j = s.i j) ∧ (∀ k : Nat, k ≠ 60 → S.a k = s.a k) ∧ (∀ k : Nat, k < h → S.a 60 k = s.a 60 k) ∧ (S.r = s.r ∧ S.w = s.w ∧ S.o = s.o ∧ S.ot = s.ot ∧ S.oa = s.oa)
theorem E65.tr {s S T : CS} {h : Nat} (a : E65 s S h) (b : E65 S T h) : E65 s T h := by
  obtain ⟨a1, a2, a3, a4, a5, a6, a7, a8⟩ := a
  obtain ⟨b1, b2, b3, b4, b5, b6, b7, b8⟩ := b
  exact ⟨fun j p q => (b1 j p q).trans (a1 j p q), fun k p => (b2 k p).trans (a2 k p), fun k p => (b3 k p).trans (a3 k p), b4.trans a4, b5.trans a5, b6.trans a6, b7.trans a7, b8.trans a8⟩
theorem E65.dn {s S : CS} {h h' : Nat} (a : E65 s S h) (l : h' ≤ h) : E65 s S h' := ⟨a.1, a.2.1, fun k p => a.2.2.1 k (by omega), a.2.2.2⟩
theorem e65_66 {s : CS} {h : Nat} {v : Int32} : E65 s (CS.setI s 66 v) h := ⟨fun j _ b => ci_ne _ _ _ b, fun _ _ => rfl, fun _ _ => rfl, rfl, rfl, rfl, rfl, rfl⟩
theorem e65_nx {s : CS} {h : Nat} : E65 s (cNx s) h := e65_66
theorem e65_po {s : CS} {h : Nat} : E65 s (cPo s) h := ⟨fun j a _ => cPo_i a, fun _ _ => rfl, fun _ _ => rfl, rfl, rfl, rfl, rfl, rfl⟩
theorem e65_pu {s : CS} {h : Nat} {v : Int32} (e : (s.i 65).toInt = (h : Int)) (h6 : h < 600) : E65 s (cPu s v) h := by
  refine ⟨fun j a _ => cPu_i a, fun k a => cPu_a a, fun k hk => ?_, rfl, rfl, rfl, rfl, rfl⟩
  show gPut (s.a 60) 600 (s.i 65) v k = s.a 60 k
  unfold gPut
  rw [if_pos ⟨by omega, by omega⟩, cl_nat e]
  exact if_neg (by omega)
theorem cPu_65 {s : CS} {h : Nat} {v : Int32} (e : (s.i 65).toInt = (h : Int)) (h6 : h < 600) : ((cPu s v).i 65).toInt = ((h + 1 : Nat) : Int) := by
  unfold cPu
  rw [ci_at, ad1 (by omega) (by omega), e]
  rfl
theorem cPo_65 {s : CS} {h : Nat} (e : (s.i 65).toInt = ((h + 1 : Nat) : Int)) : ((cPo s).i 65).toInt = (h : Int) := by
  unfold cPo
  rw [ci_at]
  exact sub_n1 (by omega)
theorem dsp_c {N H : Nat} (hN : 10000000000 ≤ N) {D : Nat → List Nat} {T : Int32 × CS} {s0 : CS} {d n h : Nat} {v : Int32} (dp : DSP s0 d n) (h6 : h + 2 ≤ 600) : ∀ (k i : Nat) (S : CS) (x : Int32), i + k = n → CRN N H D T s0 S x → S.i 72 = -1 → S.i 73 = 0 → (S.i 66).toInt = ((d + 2 * i : Nat) : Int) → (S.i 65).toInt = ((h + 1 : Nat) : Int) → S.a 60 h = v → x.toInt + 2 * k + 2 ≤ 4000000 → ∃ (S2 : CS) (x' : Int32), CRN N H D T s0 S2 x' ∧ x'.toInt ≤ x.toInt + 2 * k + 2 ∧ E65 S S2 h ∧ (S2.i 65).toInt = (h : Int) ∧ ((∃ j : Nat, j < n ∧ s0.a 16 (d + 2 * j) = v ∧ S2.i 66 = cTg s0 (s0.a 16 (d + 2 * j + 1))) ∨ ((∀ j : Nat, i ≤ j → j < n → ¬ s0.a 16 (d + 2 * j) = v) ∧ S2.i 66 = cTg s0 (s0.a 16 (d + 2 * n + 1)))) := by
  obtain ⟨dp1, dp2, dp3, dp4⟩ := dp
  intro k
  induction k with
  | zero =>
    intro i S x hi cr h72 h73 h66 h65 hv hx
    have x0 := cr.2.2.1.1
    have ein : i = n := by omega
    rw [ein] at h66
    obtain ⟨A, a1, a2, -, ⟨a4, a5⟩, -, xa⟩ := tick2 hN cr h72 h73 h66 (by omega) (by omega)
    have eA : A = cPo (cNx S) := xi_6 (a4.trans dp3) a1
    have A72 : A.i 72 = -1 := by rw [eA, cPo_i (by decide), cNx_i (by decide)]; exact h72
    have A73 : A.i 73 = 0 := by rw [eA, cPo_i (by decide), cNx_i (by decide)]; exact h73
    have A66 : (A.i 66).toInt = ((d + 2 * n + 1 : Nat) : Int) := by
      rw [eA, cPo_i (by decide)]
      exact cNx_66 h66 (by omega)
    obtain ⟨B, b1, b2, -, ⟨b4, b5⟩, b6, xb⟩ := tick2 hN (a2 A72) A72 A73 A66 (by omega) (by omega)
    have eB : B = CS.setI (cNx A) 66 (cTg A (cAr A)) := xi_30 (b4.trans dp4) b1
    have EB : E65 S B h := by
      rw [eB, eA]
      exact ((e65_nx.tr e65_po).tr e65_nx).tr e65_66
    have B72 : B.i 72 = -1 := (EB.1 72 (by decide) (by decide)).trans h72
    refine ⟨B, x + 1 + 1, b2 B72, by rw [xb, xa]; omega, EB, ?_, Or.inr ⟨fun j z1 z2 => by omega, ?_⟩⟩
    · rw [eB, ci_ne _ _ _ (by decide), cNx_i (by decide), eA]
      exact cPo_65 (by rw [cNx_i (by decide)]; exact h65)
    · rw [eB, ci_at, b6, b5]
  | succ k ih =>
    intro i S x hi cr h72 h73 h66 h65 hv hx
    have x0 := cr.2.2.1.1
    obtain ⟨r1, r2⟩ := dp2 i (by omega)
    obtain ⟨A, a1, a2, -, ⟨a4, a5⟩, -, xa⟩ := tick2 hN cr h72 h73 h66 (by omega) (by omega)
    have eA : A = cPu (cNx S) (cAr S) := xi_0 (a4.trans r1) a1
    have n65 : ((cNx S).i 65).toInt = ((h + 1 : Nat) : Int) := by rw [cNx_i (by decide)]; exact h65
    have A72 : A.i 72 = -1 := by rw [eA, cPu_i (by decide), cNx_i (by decide)]; exact h72
    have A73 : A.i 73 = 0 := by rw [eA, cPu_i (by decide), cNx_i (by decide)]; exact h73
    have A66 : (A.i 66).toInt = ((d + 2 * i + 1 : Nat) : Int) := by
      rw [eA, cPu_i (by decide)]
      exact cNx_66 h66 (by omega)
    have A65 : (A.i 65).toInt = ((h + 1 + 1 : Nat) : Int) := by
      rw [eA]
      exact cPu_65 n65 (by omega)
    have EA : E65 S A (h + 1) := by
      rw [eA]
      exact e65_nx.tr (e65_pu n65 (by omega))
    have tA : cTp A = s0.a 16 (d + 2 * i) := by
      rw [cTp_at (h := h + 1) (by rw [A65]; omega) (by omega), eA, cPu_top n65 (by omega), a5]
    have tA2 : cTp (cPo A) = v := by
      have p65 := cPo_65 (h := h + 1) A65
      rw [cTp_at (h := h) (by rw [p65]; omega) (by omega)]
      show A.a 60 h = v
      rw [EA.2.2.1 h (by omega)]
      exact hv
    obtain ⟨B, b1, b2, -, ⟨b4, b5⟩, b6, xb⟩ := tick2 hN (a2 A72) A72 A73 A66 (by omega) (by omega)
    have eB : B = if cTp (cPo A) = cTp A then CS.setI (cPo (cPo (cNx A))) 66 (cTg A (cAr A)) else cPo (cNx A) := xi_34 (b4.trans r2) b1
    rw [tA, tA2] at eB
    have na65 : ((cNx A).i 65).toInt = ((h + 1 + 1 : Nat) : Int) := by rw [cNx_i (by decide)]; exact A65
    by_cases c : v = s0.a 16 (d + 2 * i)
    · rw [if_pos c] at eB
      have EB : E65 S B h := by
        rw [eB]
        exact (EA.dn (by omega)).tr (((e65_nx.tr e65_po).tr e65_po).tr e65_66)
      have B72 : B.i 72 = -1 := (EB.1 72 (by decide) (by decide)).trans h72
      refine ⟨B, x + 1 + 1, b2 B72, by rw [xb, xa]; omega, EB, ?_, Or.inl ⟨i, by omega, c.symm, ?_⟩⟩
      · rw [eB, ci_ne _ _ _ (by decide)]
        exact cPo_65 (cPo_65 na65)
      · rw [eB, ci_at, b6, b5]
    · rw [if_neg c] at eB
      have EB : E65 S B (h + 1) := by
        rw [eB]
        exact EA.tr (e65_nx.tr e65_po)
      have B72 : B.i 72 = -1 := (EB.1 72 (by decide) (by decide)).trans h72
      have B73 : B.i 73 = 0 := (EB.1 73 (by decide) (by decide)).trans h73
      have B66 : (B.i 66).toInt = ((d + 2 * (i + 1) : Nat) : Int) := by
        rw [eB, cPo_i (by decide), cNx_66 A66 (by omega)]
        omega
      have B65 : (B.i 65).toInt = ((h + 1 : Nat) : Int) := by
        rw [eB]
        exact cPo_65 na65
      obtain ⟨S2, x', q1, q2, q3, q4, q5⟩ := ih (i + 1) B (x + 1 + 1) (by omega) (b2 B72) B72 B73 B66 B65 (by rw [EB.2.2.1 h (by omega)]; exact hv) (by rw [xb, xa]; omega)
      refine ⟨S2, x', q1, by rw [xb, xa] at q2; omega, (EB.dn (by omega)).tr q3, q4, ?_⟩
      rcases q5 with q5 | ⟨q5, q6⟩
      · exact Or.inl q5
      · refine Or.inr ⟨fun j z1 z2 => ?_, q6⟩
        by_cases z : j = i
        · rw [z]
          exact fun y => c y.symm
        · exact q5 j (by omega) z2
/-- the reference's chain of entries -/
def CHL (r : RS) : List Nat → Int32 → Prop
  | [], k => k.toInt < 0
  | j :: L, k => k.toInt = (j : Int) ∧ CHL r L (r.a 27 j)
theorem CHL.of {r R : RS} (e : R.a 27 = r.a 27) : ∀ {L : List Nat} {k : Int32}, CHL r L k → CHL R L k
  | [], _, h => h
  | j :: L, k, ⟨h1, h2⟩ => ⟨h1, by rw [e]; exact CHL.of e h2⟩
theorem cas_r {N : Nat} {r : RS} {v : Int32} : ∀ (L : List Nat) (n : Nat) (o k : Int32) (Q : Int32 × RS), CHL r L k → f_X12_caseOf_5 N n r v o k = some Q → Q.2 = r ∧ ((∃ j ∈ L, r.a 28 j = 0 ∧ r.a 25 j = v ∧ Q.1.toInt = (j : Int)) ∨ ((∀ j ∈ L, r.a 28 j = 0 → ¬ r.a 25 j = v) ∧ ((∃ j ∈ L, ¬ r.a 28 j = 0 ∧ Q.1.toInt = (j : Int)) ∨ ((∀ j ∈ L, r.a 28 j = 0) ∧ Q.1 = o)))) := by
  intro L
  induction L with
  | nil =>
    intro n o k Q h g
    cases n with
    | zero => cases g
    | succ n =>
      have g' : b_X12_caseOf_5 N (f_X12_caseOf_5 N n) r v o k = some Q := g
      unfold b_X12_caseOf_5 at g'
      have hk : k.toInt < 0 := h
      rw [if_pos (by rw [Int32.lt_iff_toInt_lt, z_t0]; exact hk)] at g'
      rw [← Option.some.inj g']
      refine ⟨rfl, Or.inr ⟨fun j hj => ?_, Or.inr ⟨fun j hj => ?_, rfl⟩⟩⟩
      · cases hj
      · cases hj
  | cons a L ih =>
    intro n o k Q h g
    obtain ⟨h1, h2⟩ := h
    cases n with
    | zero => cases g
    | succ n =>
      have g' : b_X12_caseOf_5 N (f_X12_caseOf_5 N n) r v o k = some Q := g
      unfold b_X12_caseOf_5 at g'
      rw [if_neg (by rw [Int32.lt_iff_toInt_lt, z_t0]; omega), cl_nat h1] at g'
      obtain ⟨-, g1⟩ := hf_ite g'
      by_cases c : r.a 28 a = 0
      · rw [if_pos c] at g1
        by_cases d : r.a 25 a = v
        · rw [if_pos d] at g1
          rw [← Option.some.inj g1]
          exact ⟨rfl, Or.inl ⟨a, List.mem_cons_self, c, d, h1⟩⟩
        · rw [if_neg d] at g1
          obtain ⟨i1, i2⟩ := ih n o (r.a 27 a) Q h2 g1
          refine ⟨i1, ?_⟩
          rcases i2 with ⟨j, j1, j2⟩ | ⟨i3, i4⟩
          · exact Or.inl ⟨j, List.mem_cons_of_mem _ j1, j2⟩
          · refine Or.inr ⟨fun j hj => ?_, ?_⟩
            · rcases List.mem_cons.mp hj with z | z
              · rw [z]
                exact fun _ => d
              · exact i3 j z
            · rcases i4 with ⟨j, j1, j2⟩ | ⟨i5, i6⟩
              · exact Or.inl ⟨j, List.mem_cons_of_mem _ j1, j2⟩
              · refine Or.inr ⟨fun j hj => ?_, i6⟩
                rcases List.mem_cons.mp hj with z | z
                · rw [z]
                  exact c
                · exact i5 j z
      · rw [if_neg c] at g1
        obtain ⟨i1, i2⟩ := ih n k (r.a 27 a) Q h2 g1
        refine ⟨i1, ?_⟩
        rcases i2 with ⟨j, j1, j2⟩ | ⟨i3, i4⟩
        · exact Or.inl ⟨j, List.mem_cons_of_mem _ j1, j2⟩
        · refine Or.inr ⟨fun j hj => ?_, ?_⟩
          · rcases List.mem_cons.mp hj with z | z
            · rw [z]
              exact fun y => absurd y c
            · exact i3 j z
          · rcases i4 with ⟨j, j1, j2⟩ | ⟨i5, i6⟩
            · exact Or.inl ⟨j, List.mem_cons_of_mem _ j1, j2⟩
            · exact Or.inl ⟨a, List.mem_cons_self, c, by rw [i6]; exact h1⟩
