/-! both readers: the text's end -/
theorem rl_end {N n : Nat} {s U : RS} (h : f_X12_parse_10 N n s = some U) (ht : tpI s = -1) : U = s := by
  cases n with
  | zero => cases h
  | succ n =>
    have h' : b_X12_parse_10 N (f_X12_parse_10 N n) s = some U := h
    unfold b_X12_parse_10 at h'
    have z : s.i 63 < 0 := Int32.lt_iff_toInt_lt.mpr (by
      rw [z_t0]
      have : (s.i 63).toInt = -1 := ht
      omega)
    rw [if_pos z] at h'
    exact (Option.some.inj h').symm
/-- the code of a whole text: from its first place on all is good -/
def FCD (B : CS) (b : RS) (R : CS) (U : RS) : Prop := CRQB B → SLO b → U.i 18 < 0 → -1 ≤ (b.i 11).toInt → ∃ (FC : Nat → Prop) (M : Nat → Nat → Prop), ((B.i 23).toInt ≤ (R.i 23).toInt ∧ (R.i 23).toInt ≤ 700) ∧ GHM M B b R U ∧ ∀ nm : Nat → Nat → Prop, (∀ k l : Nat, ((B.i 23).toInt ≤ (k : Int) ∧ (k : Int) < (R.i 23).toInt) ∨ ((b.i 42).toInt ≤ (l : Int) ∧ (l : Int) < (U.i 42).toInt) → (nm k l ↔ M k l)) → NMG nm [] B b → GU2 FC R U nm (fun _ _ _ _ _ _ => False) (pcC B) (pcR b) 0 (1300 - pcC B) []
/-- the base of a whole text asks for nothing -/
def RBA : JBA := fun _ _ _ _ _ _ _ => True
/-- at the end: the class's fault, or the same counts -/
def QRT (d : Int32) (B : CS) (b : RS) (U : RS) (R : CS) : Prop := (¬ R.i 32 = 0 ∧ ¬ U.i 10 = 0) ∨ (R.i 32 = 0 ∧ (U.i 15 = 0 ∧ U.i 10 = 0) ∧ (R.i 24 = U.i 53 ∧ R.i 26 = U.i 55 ∧ R.i 25 + d = U.i 54) ∧ (R.i 27 = U.i 75 ∧ (U.i 75 = 0 ∨ U.i 75 = 1)) ∧ (0 ≤ (R.i 37).toInt ↔ 0 ≤ (U.i 18).toInt) ∧ FCD B b R U)
theorem rt_end {N : Nat} (hN : 1000 ≤ N) {E1 : CS → Option (Unit × CS)} {E2 : CS → Option (Int32 × CS)} {d : Int32} {B : CS} {b : RS} {n : Nat} {S : CS} {s U : RS} {c : CEL} {P : Unit × CS} (h : STI RBA U d B b 0 S s c []) (h56 : (B.i 56).toInt = -1) (tk : S.i 43 = 125 ∨ S.i 43 = 0 ∨ S.i 43 = 219 ∨ S.i 43 = 220) (k : KTN N E1 E2 S c.2.1 P) (g : f_X12_parse_10 N n s = some U) : (¬ P.2.i 32 = 0 ∨ (P.2.i 53).toInt ≤ 0) ∧ QRT d B b U P.2 := by
  obtain ⟨x, hC, tp, ⟨hM, h36⟩, bz, bt, -, jx⟩ := h
  have hv := hC.1
  have cb := hC.2.2.2.2.1
  obtain ⟨-, -, -, -, -, ⟨b7, b8, -⟩, b9⟩ := id bz
  have eo := (cb.2.1 c.1 c.2.1 (by omega) b8).1
  have b9' : c.1 = 0 ∧ B.o c.2.1 0 = 300 := by
    rcases b9 with ⟨z, -⟩ | ⟨z1, -, z2⟩
    · rw [h56] at z
      omega
    · exact ⟨z1, z2⟩
  have h300 : S.o c.2.1 0 = 300 := by rw [eo]; exact b9'.2
  have bt' : 0 + 1 = ceT c + wid (B.o c.2.1 0) := bt
  have wd : wid (B.o c.2.1 0) = 1 := by rw [b9'.2]; rfl
  have wdS : wid (S.o c.2.1 0) = 1 := by rw [h300]; rfl
  have t0 : ceT c = 0 := by omega
  have no : ¬ isOne (S.o c.2.1 0) := by rw [h300]; unfold isOne; decide
  have hL : MLI c S s := by
    rcases hM with z | z | z | z | z
    · exact z
    · exact absurd z.1 no
    · exact absurd z.1 no
    · exact absurd (h300.symm.trans z.1) (by decide)
    · exact absurd (h300.symm.trans z.1) (by decide)
  obtain ⟨-, -, ts, h64, hmode, -⟩ := hL
  have ix : ceT c + wid (S.o c.2.1 0) - 1 = 0 := by omega
  rw [ix] at h64 hmode
  have ts' : tpI s = ((0 : Nat) : Int) := by
    rw [ts, wdS, t0]
    rfl
  have k125 := tk_is hv (a := 125) (b := 125) (Or.inl ⟨by decide, by decide⟩) (by decide)
  have k9 := tk_is hv (a := 219) (b := 429) (Or.inr ⟨by decide, by decide⟩) (by decide)
  have k20 := tk_is hv (a := 220) (b := 430) (Or.inr ⟨by decide, by decide⟩) (by decide)
  have k0 := tk_is hv (a := 0) (b := 0) (Or.inl ⟨by decide, by decide⟩) (by decide)
  have h10 : s.i 10 = 125 ∨ s.i 10 = 429 ∨ s.i 10 = 430 ∨ s.i 10 = 0 := by
    rcases tk with z | z | z | z
    · exact Or.inl (k125.mp z)
    · exact Or.inr (Or.inr (Or.inr (k0.mp z)))
    · exact Or.inr (Or.inl (k9.mp z))
    · exact Or.inr (Or.inr (Or.inl (k20.mp z)))
  obtain ⟨m0, V, g0, n1, n2, -, -, n5, -, n7, -, -, -, -, ni, na, -⟩ := y_lend hv ts' h64 hmode h36 h10 g
  have eU : U = V := rl_end g0 (by rw [n2]; rfl)
  rw [← eU] at n1 n5 n7 ni na
  have u10 : ¬ S.i 43 = 0 → ¬ U.i 10 = 0 := fun z q => z (k0.mpr (by rw [← n7]; exact q))
  rcases k with ⟨z, -⟩ | ⟨⟨z, -⟩, -⟩ | ⟨⟨z, -⟩, -⟩ | ⟨-, z, k⟩ | ⟨⟨-, z⟩, -⟩ | ⟨-, ⟨q1, q2⟩, k⟩
  · exact absurd z no
  · exact absurd (h300.symm.trans z) (by decide)
  · exact absurd (h300.symm.trans z) (by decide)
  · unfold f_X7_endList at k
    obtain ⟨-, k⟩ := hf_ite k
    rw [if_pos h300] at k
    obtain ⟨p53, e53, k⟩ := hf_bind k
    obtain ⟨-, k⟩ := hf_ite k
    obtain ⟨p58, e58, k⟩ := hf_bind k
    have ep := ob_un k
    have kd := kd_X0_add N _ _ _ p58 e58
    have f58 : p58.2.i 32 = p53.2.i 32 := (fst_add e58).trans (ci_ne _ _ _ (by decide))
    by_cases c0 : S.i 43 = 0
    · -- the end
      unfold f_X1_expect at e53
      rw [e_fnd1 c0, ob_some, if_neg n10] at e53
      have ea := ob_un e53
      obtain ⟨w, ew, adv⟩ := q_advance hN hv.1.2.2.2.2.2.2.2 hv.1.2.2.2.2.2.2.1
      have ewp : w = p53 := Option.some.inj (ew.symm.trans ea)
      rw [ewp] at adv
      have ai := adv.1.2
      have pe := pj_eq (pj2_eq kd).1
      obtain ⟨-, -, -, -, -, -, j24, j25, j26, j27, j36, j37, -, -, j53, -⟩ := pe
      have g24 : p58.2.i 24 = S.i 24 := j24.trans ((ci_ne _ _ _ (by decide)).trans (ai 24 (by decide) (by decide) (by decide) (by decide)))
      have g25 : p58.2.i 25 = S.i 25 := j25.trans ((ci_ne _ _ _ (by decide)).trans (ai 25 (by decide) (by decide) (by decide) (by decide)))
      have g26 : p58.2.i 26 = S.i 26 := j26.trans ((ci_ne _ _ _ (by decide)).trans (ai 26 (by decide) (by decide) (by decide) (by decide)))
      have g27 : p58.2.i 27 = S.i 36 := by
        rw [j27, ci_at]
        exact ai 36 (by decide) (by decide) (by decide) (by decide)
      have g37 : p58.2.i 37 = S.i 37 := j37.trans ((ci_ne _ _ _ (by decide)).trans (ai 37 (by decide) (by decide) (by decide) (by decide)))
      have g53 : p58.2.i 53 = S.i 53 := j53.trans ((ci_ne _ _ _ (by decide)).trans (ai 53 (by decide) (by decide) (by decide) (by decide)))
      have g32 : p58.2.i 32 = 0 := (f58.trans (ai 32 (by decide) (by decide) (by decide) (by decide))).trans hv.1.1
      have t1 := tp.1
      have s1 : (S.i 53 - 1).toInt = 0 := by
        have z := m1_int t1
        rw [z]
        omega
      unfold f_X6_pop at ep
      rw [g53, if_neg (show ¬ (0 : Int32) < S.i 53 - 1 from fun q => by
        have := lt_int q
        rw [z_t0, s1] at this
        omega)] at ep
      have eP : P.2 = CS.setI p58.2 53 0 := by rw [← Option.some.inj ep]
      have Pi : ∀ j : Nat, j ≠ 53 → P.2.i j = p58.2.i j := fun j hj => by rw [eP, ci_ne _ _ _ hj]
      have cns := n1.2.2.2.1
      refine ⟨Or.inr ?_, Or.inr ⟨?_, ⟨n1.1.2.1, ?_⟩, ⟨?_, ?_, ?_⟩, ⟨?_, ?_⟩, ?_, ?_⟩⟩
      · rw [eP, ci_at, z_t0]
        exact Int.le_refl _
      · rw [Pi 32 (by decide)]
        exact g32
      · rw [n7]
        exact k0.mp c0
      · rw [Pi 24 (by decide), g24]
        exact cns.1
      · rw [Pi 26 (by decide), g26]
        exact cns.2.1
      · rw [Pi 25 (by decide), g25]
        exact cns.2.2
      · rw [Pi 27 (by decide), g27, n5]
      · rw [n5]
        exact h36
      · rw [Pi 37 (by decide), g37]
        exact n1.2.2.2.2.1
      · intro crB slb u18 b11
        have jw := jx.w (by rw [h300]; decide)
        obtain ⟨⟨e', he', k1⟩, -, k3, Ψ, G, col, YJ, sax, -, -, -, main⟩ := jw crB
        obtain ⟨-, F, M, ghm, hM'⟩ := sax slb
        have h9 := (i11_hi hv).2
        have r1 := (crB.rms k1).1
        have k44 := hv.p44.1
        have pe53 := ke_X9_advance N S p53 ea
        obtain ⟨A20, A15, A16, A17, A23, A38, A22, A19⟩ := pe_eq pe53
        obtain ⟨a1, a2, a3, a4, a5, -⟩ := ad_eq e58
        have i20 : (CS.setI p53.2 27 (p53.2.i 36)).i 20 = S.i 20 := by rw [ci_ne _ _ _ (by decide), A20]
        have i23 : P.2.i 23 = S.i 23 := by rw [Pi 23 (by decide), a2 23 (by decide), ci_ne _ _ _ (by decide), A23]
        have b15 : (CS.setI p53.2 27 (p53.2.i 36)).a 15 = S.a 15 := A15
        have b16 : (CS.setI p53.2 27 (p53.2.i 36)).a 16 = S.a 16 := A16
        have b17 : (CS.setI p53.2 27 (p53.2.i 36)).a 17 = S.a 17 := A17
        have Pa : P.2.a = p58.2.a := by rw [eP]; rfl
        have ck20 := clampI r1.1
        have l20 : (S.i 20).toInt < 1200 := by
          have r2 := r1.2
          rw [k44] at r2
          omega
        have g15 : ∀ j : Nat, (j : Int) < (S.i 20).toInt → P.2.a 15 j = S.a 15 j ∧ P.2.a 16 j = S.a 16 j := fun j hj => by
          rw [Pa, a3, a4, i20, b15, b16]
          refine ⟨gput_ne (by omega), gput_ne (by omega)⟩
        have e15 : P.2.a 15 (pcC S) = 50 := by
          rw [Pa, a3, i20]
          unfold pcC
          exact gput_at ⟨r1.1, by omega⟩
        have g17 : P.2.a 17 = S.a 17 := by rw [Pa, a5 17 (by decide) (by decide), b17]
        have s20 := hv.p20
        have sU : ∀ k : Nat, k ≠ 63 → k ≠ 75 → U.i k = s.i k := ni
        have s42 : U.i 42 = s.i 42 := sU 42 (by decide) (by decide)
        refine ⟨F, M, ⟨by rw [i23]; exact k1.2.2.2.1.1, by
          rw [i23]
          obtain ⟨-, -, -, -, r5⟩ := crB.rms k1
          rw [k44] at r5
          have e1 : e' ≤ 1 := by rcases he' with z | ⟨z, -⟩ <;> omega
          omega⟩, ?_, fun nm cond ng => ?_⟩
        · unfold GHM at ghm ⊢
          rw [i23, s42]
          exact ghm
        · have psi := hM' F nm ⟨fun _ _ _ _ => Iff.rfl, fun k l h => cond k l (by rw [i23, s42]; exact h)⟩
          obtain ⟨-, mn⟩ := main F P.2 nm (fun _ _ _ _ _ _ => False) 0 1300 [] psi ng ⟨True.intro, Nat.zero_le _, Nat.zero_le _, fun _ he => absurd he List.not_mem_nil⟩ (by show ((2 * 0 + (0 + 3 * 0) : Nat) : Int) ≤ _; omega) (Nat.le_refl _)
          have v0 : (vw S s c).v = 300 := vw_v.trans h300
          obtain ⟨s2, t2, g2, d2, l2, j2, nv2⟩ := v302 (Or.inl v0)
          have jc : JCX G 1300 0 [] (vws S s [c]) = (0, 0, jty (vw S s c).v 0 0, []) := by
            show (0, 0 + jlv (vw S s c).v, jty (vw S s c).v (0 + jlv (vw S s c).v) 0, jen G 1300 (vw S s c) 0 0 ++ []) = _
            rw [j2, v0]
            rfl
          rw [jc] at mn
          refine (mn ⟨⟨by have := crB.1.1.1.1; omega, by omega⟩, fun j _ j2' => g15 j j2', fun k _ _ _ => by rw [g17]⟩ ?_ True.intro ⟨fun z => ?_, Nat.le_refl _⟩ ⟨⟨fun z => absurd z (nv2 _ (by decide)), fun z => absurd z (nv2 _ (by decide)), fun z => absurd z (nv2 _ (by decide)), fun z => absurd z (nv2 _ (by decide)), fun z => absurd z (nv2 _ (by decide)), fun z => absurd z (nv2 _ (by decide)), fun z => absurd z (nv2 _ (by decide)), fun z => absurd z t2, fun z => absurd z g2⟩, True.intro⟩ (fun _ => ?_)).1
          · refine ⟨⟨by have := hC.2.2.2.2.2.2.2.2.2.2.2.2.1; omega, by rw [sU 20 (by decide) (by decide)]; exact Int.le_refl _, by rw [sU 20 (by decide) (by decide)]; omega⟩, fun j _ _ => ?_, fun j _ _ => ?_, fun j _ _ _ => ?_, fun j _ _ => ?_⟩
            · rw [na 21 (by decide), na 22 (by decide), na 23 (by decide)]
              exact ⟨rfl, fun _ => rfl, fun _ => rfl⟩
            · rw [na 25 (by decide), na 26 (by decide), na 27 (by decide), na 28 (by decide)]
              exact ⟨rfl, rfl, fun _ => rfl, rfl⟩
            · rw [na 30 (by decide), na 31 (by decide), na 32 (by decide)]
              exact ⟨rfl, rfl, rfl⟩
            · rw [na 34 (by decide), na 35 (by decide), na 36 (by decide), na 37 (by decide)]
              exact ⟨rfl, rfl, rfl, fun _ => rfl⟩
          · have y1 := lt_int u18
            have y2 := le_int z
            omega
          · have hc1 : HC1 nm (pcC S) (pcR s) 0 [] := ⟨⟨by unfold pcC; omega, by unfold pcR; have := clampI s20.1; omega⟩, True.intro, Nat.zero_le _, Nat.zero_le _, fun _ he => absurd he List.not_mem_nil⟩
            have ue : UEnd P.2 (pcC S) (pcR s) (1300 + 0 - pcC S) U := ⟨e15, by rw [sU 20 (by decide) (by decide)]; unfold pcR; exact clampI s20.1, by unfold pcC; omega⟩
            exact ⟨gi_UEnd (c := []) hc1 ue, gi_UEnd (c := []) hc1 ue⟩
    · -- a sign that closes nothing
      have z53 : ¬ p53.2.i 32 = 0 := by
        unfold f_X1_expect at e53
        rw [e_fnd0 c0, ob_some, if_pos rfl] at e53
        exact y_misp (ob_un e53)
      have z58 : ¬ p58.2.i 32 = 0 := by
        rw [f58]
        exact z53
      have zP : ¬ P.2.i 32 = 0 := by
        rw [kF_X6_pop N p58.2 P ep z58]
        exact z58
      exact ⟨Or.inl zP, Or.inl ⟨zP, u10 c0⟩⟩
  · exact absurd (h300.symm.trans z) (by decide)
  · have tk' : S.i 43 = 219 ∨ S.i 43 = 220 := by
      rcases tk with z | z | z | z
      · exact absurd z q1
      · exact absurd z q2
      · exact Or.inl z
      · exact Or.inr z
    have zP := y_stF (x1 := 0) (Or.inl (Or.inr tk')) k
    exact ⟨Or.inl zP, Or.inl ⟨zP, u10 q2⟩⟩
