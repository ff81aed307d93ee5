/-! both readers: the text's end -/
theorem rl_end {N n : Nat} {s U : RS} (h : f_X12_parse_10 N n s = some U) (ht : tpI s = -1) : U = s := by
  cases n with
  | zero => cases h
  | succ n =>
    have h' : b_X12_parse_10 N (f_X12_parse_10 N n) s = some U := h
    unfold b_X12_parse_10 at h'
    have z : s.i 63 < 0 := Int32.lt_iff_toInt_lt.mpr (by
      rw [z_t0]
      have : (s.i 63).toInt = -1 := ht
      omega)
    rw [if_pos z] at h'
    exact (Option.some.inj h').symm
/-- at the end: the class's fault, or the same counts -/
def QRT (d : Int32) (U : RS) (R : CS) : Prop := (¬ R.i 32 = 0 ∧ ¬ U.i 10 = 0) ∨ (R.i 32 = 0 ∧ (U.i 15 = 0 ∧ U.i 10 = 0) ∧ (R.i 24 = U.i 53 ∧ R.i 26 = U.i 55 ∧ R.i 25 + d = U.i 54) ∧ (R.i 27 = U.i 75 ∧ (U.i 75 = 0 ∨ U.i 75 = 1)) ∧ (0 ≤ (R.i 37).toInt ↔ 0 ≤ (U.i 18).toInt))
theorem rt_end {N : Nat} (hN : 1000 ≤ N) {E1 : CS → Option (Unit × CS)} {E2 : CS → Option (Int32 × CS)} {d : Int32} {B : CS} {b : RS} {n : Nat} {S : CS} {s U : RS} {c : CEL} {P : Unit × CS} (h : STI d B b 0 S s c []) (h56 : (B.i 56).toInt = -1) (tk : S.i 43 = 125 ∨ S.i 43 = 0 ∨ S.i 43 = 219 ∨ S.i 43 = 220) (k : KTN N E1 E2 S c.2.1 P) (g : f_X12_parse_10 N n s = some U) : (¬ P.2.i 32 = 0 ∨ (P.2.i 53).toInt ≤ 0) ∧ QRT d U P.2 := by
  obtain ⟨x, hC, tp, ⟨hM, h36⟩, bz, bt, -⟩ := h
  have hv := hC.1
  have cb := hC.2.2.2.2.1
  obtain ⟨-, -, -, -, -, ⟨b7, b8, -⟩, b9⟩ := id bz
  have eo := (cb.2.1 c.1 c.2.1 (by omega) b8).1
  have b9' : c.1 = 0 ∧ B.o c.2.1 0 = 300 := by
    rcases b9 with ⟨z, -⟩ | ⟨z1, -, z2⟩
    · rw [h56] at z
      omega
    · exact ⟨z1, z2⟩
  have h300 : S.o c.2.1 0 = 300 := by rw [eo]; exact b9'.2
  have bt' : 0 + 1 = ceT c + wid (B.o c.2.1 0) := bt
  have wd : wid (B.o c.2.1 0) = 1 := by rw [b9'.2]; rfl
  have wdS : wid (S.o c.2.1 0) = 1 := by rw [h300]; rfl
  have t0 : ceT c = 0 := by omega
  have no : ¬ isOne (S.o c.2.1 0) := by rw [h300]; unfold isOne; decide
  have hL : MLI c S s := by
    rcases hM with z | z | z | z | z
    · exact z
    · exact absurd z.1 no
    · exact absurd z.1 no
    · exact absurd (h300.symm.trans z.1) (by decide)
    · exact absurd (h300.symm.trans z.1) (by decide)
  obtain ⟨-, -, ts, h64, hmode, -⟩ := hL
  have ix : ceT c + wid (S.o c.2.1 0) - 1 = 0 := by omega
  rw [ix] at h64 hmode
  have ts' : tpI s = ((0 : Nat) : Int) := by
    rw [ts, wdS, t0]
    rfl
  have k125 := tk_is hv (a := 125) (b := 125) (Or.inl ⟨by decide, by decide⟩) (by decide)
  have k9 := tk_is hv (a := 219) (b := 429) (Or.inr ⟨by decide, by decide⟩) (by decide)
  have k20 := tk_is hv (a := 220) (b := 430) (Or.inr ⟨by decide, by decide⟩) (by decide)
  have k0 := tk_is hv (a := 0) (b := 0) (Or.inl ⟨by decide, by decide⟩) (by decide)
  have h10 : s.i 10 = 125 ∨ s.i 10 = 429 ∨ s.i 10 = 430 ∨ s.i 10 = 0 := by
    rcases tk with z | z | z | z
    · exact Or.inl (k125.mp z)
    · exact Or.inr (Or.inr (Or.inr (k0.mp z)))
    · exact Or.inr (Or.inl (k9.mp z))
    · exact Or.inr (Or.inr (Or.inl (k20.mp z)))
  obtain ⟨m0, V, g0, n1, n2, -, -, n5, -, n7, -, -, -⟩ := y_lend hv ts' h64 hmode h36 h10 g
  have eU : U = V := rl_end g0 (by rw [n2]; rfl)
  rw [← eU] at n1 n5 n7
  have u10 : ¬ S.i 43 = 0 → ¬ U.i 10 = 0 := fun z q => z (k0.mpr (by rw [← n7]; exact q))
  rcases k with ⟨z, -⟩ | ⟨⟨z, -⟩, -⟩ | ⟨⟨z, -⟩, -⟩ | ⟨-, z, k⟩ | ⟨⟨-, z⟩, -⟩ | ⟨-, ⟨q1, q2⟩, k⟩
  · exact absurd z no
  · exact absurd (h300.symm.trans z) (by decide)
  · exact absurd (h300.symm.trans z) (by decide)
  · unfold f_X7_endList at k
    obtain ⟨-, k⟩ := hf_ite k
    rw [if_pos h300] at k
    obtain ⟨p53, e53, k⟩ := hf_bind k
    obtain ⟨-, k⟩ := hf_ite k
    obtain ⟨p58, e58, k⟩ := hf_bind k
    have ep := ob_un k
    have kd := kd_X0_add N _ _ _ p58 e58
    have f58 : p58.2.i 32 = p53.2.i 32 := (fst_add e58).trans (ci_ne _ _ _ (by decide))
    by_cases c0 : S.i 43 = 0
    · -- the end
      unfold f_X1_expect at e53
      rw [e_fnd1 c0, ob_some, if_neg n10] at e53
      have ea := ob_un e53
      obtain ⟨w, ew, adv⟩ := q_advance hN hv.1.2.2.2.2.2.2.2 hv.1.2.2.2.2.2.2.1
      have ewp : w = p53 := Option.some.inj (ew.symm.trans ea)
      rw [ewp] at adv
      have ai := adv.1.2
      have pe := pj_eq (pj2_eq kd).1
      obtain ⟨-, -, -, -, -, -, j24, j25, j26, j27, j36, j37, -, -, j53, -⟩ := pe
      have g24 : p58.2.i 24 = S.i 24 := j24.trans ((ci_ne _ _ _ (by decide)).trans (ai 24 (by decide) (by decide) (by decide) (by decide)))
      have g25 : p58.2.i 25 = S.i 25 := j25.trans ((ci_ne _ _ _ (by decide)).trans (ai 25 (by decide) (by decide) (by decide) (by decide)))
      have g26 : p58.2.i 26 = S.i 26 := j26.trans ((ci_ne _ _ _ (by decide)).trans (ai 26 (by decide) (by decide) (by decide) (by decide)))
      have g27 : p58.2.i 27 = S.i 36 := by
        rw [j27, ci_at]
        exact ai 36 (by decide) (by decide) (by decide) (by decide)
      have g37 : p58.2.i 37 = S.i 37 := j37.trans ((ci_ne _ _ _ (by decide)).trans (ai 37 (by decide) (by decide) (by decide) (by decide)))
      have g53 : p58.2.i 53 = S.i 53 := j53.trans ((ci_ne _ _ _ (by decide)).trans (ai 53 (by decide) (by decide) (by decide) (by decide)))
      have g32 : p58.2.i 32 = 0 := (f58.trans (ai 32 (by decide) (by decide) (by decide) (by decide))).trans hv.1.1
      have t1 := tp.1
      have s1 : (S.i 53 - 1).toInt = 0 := by
        have z := m1_int t1
        rw [z]
        omega
      unfold f_X6_pop at ep
      rw [g53, if_neg (show ¬ (0 : Int32) < S.i 53 - 1 from fun q => by
        have := lt_int q
        rw [z_t0, s1] at this
        omega)] at ep
      have eP : P.2 = CS.setI p58.2 53 0 := by rw [← Option.some.inj ep]
      have Pi : ∀ j : Nat, j ≠ 53 → P.2.i j = p58.2.i j := fun j hj => by rw [eP, ci_ne _ _ _ hj]
      have cns := n1.2.2.2.1
      refine ⟨Or.inr ?_, Or.inr ⟨?_, ⟨n1.1.2.1, ?_⟩, ⟨?_, ?_, ?_⟩, ⟨?_, ?_⟩, ?_⟩⟩
      · rw [eP, ci_at, z_t0]
        exact Int.le_refl _
      · rw [Pi 32 (by decide)]
        exact g32
      · rw [n7]
        exact k0.mp c0
      · rw [Pi 24 (by decide), g24]
        exact cns.1
      · rw [Pi 26 (by decide), g26]
        exact cns.2.1
      · rw [Pi 25 (by decide), g25]
        exact cns.2.2
      · rw [Pi 27 (by decide), g27, n5]
      · rw [n5]
        exact h36
      · rw [Pi 37 (by decide), g37]
        exact n1.2.2.2.2.1
    · -- a sign that closes nothing
      have z53 : ¬ p53.2.i 32 = 0 := by
        unfold f_X1_expect at e53
        rw [e_fnd0 c0, ob_some, if_pos rfl] at e53
        exact y_misp (ob_un e53)
      have z58 : ¬ p58.2.i 32 = 0 := by
        rw [f58]
        exact z53
      have zP : ¬ P.2.i 32 = 0 := by
        rw [kF_X6_pop N p58.2 P ep z58]
        exact z58
      exact ⟨Or.inl zP, Or.inl ⟨zP, u10 c0⟩⟩
  · exact absurd (h300.symm.trans z) (by decide)
  · have tk' : S.i 43 = 219 ∨ S.i 43 = 220 := by
      rcases tk with z | z | z | z
      · exact absurd z q1
      · exact absurd z q2
      · exact Or.inl z
      · exact Or.inr z
    have zP := y_stF (x1 := 0) (Or.inl (Or.inr tk')) k
    exact ⟨Or.inl zP, Or.inl ⟨zP, u10 q2⟩⟩
