/-! both readers: case -/
/-- what stands before the last entry points where it did -/
theorem chn.same {s u : RS} {e l : Nat} : ∀ (M0 : List Nat) (k k' : Int32), chn s k (M0 ++ [l]) → chn u k' ((M0 ++ [l]) ++ [e]) → ∀ j ∈ M0, u.a 27 j = s.a 27 j
  | [], _, _, _, _, j, hj => absurd hj List.not_mem_nil
  | i :: M0, k, k', g, h, j, hj => by
    have g4 : chn s (s.a 27 i) (M0 ++ [l]) := g.2.2.2
    have h4 : chn u (u.a 27 i) ((M0 ++ [l]) ++ [e]) := h.2.2.2
    rcases List.mem_cons.mp hj with z | z
    · rw [z]
      refine Int32.toInt_inj.mp ?_
      cases M0 with
      | nil =>
        have a1 : (s.a 27 i).toInt = (l : Int) := g4.1
        have a2 : (u.a 27 i).toInt = (l : Int) := h4.1
        rw [a1, a2]
      | cons i' M1 =>
        have a1 : (s.a 27 i).toInt = (i' : Int) := g4.1
        have a2 : (u.a 27 i).toInt = (i' : Int) := h4.1
        rw [a1, a2]
    · exact chn.same M0 _ _ g4 h4 j z
set_option maxHeartbeats 4000000 in
theorem gr_case {N : Nat} (hN : 1000 ≤ N) {E1 : CS → Option (Unit × CS)} {E2 : CS → Option (Int32 × CS)} {d : Int32} {B : CS} {b : RS} {t0 n : Nat} {L : List CEL} {x : Int} {S : CS} {s U : RS} {c1 c : CEL} {R : Unit × CS} {Aj : JBA} (hC : COR d B b t0 (c1 :: c :: L) x S s) (tp : TOP S s c1) (hM : MLI c1 S s ∨ MSW c1 S s) (h36 : S.i 36 = 0 ∨ S.i 36 = 1) (h218 : S.o c1.2.1 0 = 218) (k219 : S.i 43 = 219) (bz : BAZ B b (c1 :: c :: L)) (hT : t0 ≤ ceT c1) (e : f_X7_groupTurn N E1 E2 S c1.2.1 = some R) (g : f_X12_parse_10 N n s = some U) : (¬ R.2.i 32 = 0 ∧ ¬ U.i 15 = 0) ∨ ∃ (m : Nat) (u : RS), f_X12_parse_10 N m u = some U ∧ POPD d B b t0 c1 (c :: L) R.2 u ∧ JTR Aj U B b (c1 :: c :: L) S s (vws R.2 u (c1 :: c :: L)) R.2 u := by
  have hv := hC.1
  have k10 := (tk_is hv (a := 219) (b := 429) (Or.inr ⟨by decide, by decide⟩) (by decide)).mp k219
  obtain ⟨m', e', k', c1s, lkl, stl⟩ := id hC.2.1
  obtain ⟨f1, f2, f3, f4, f5, f6⟩ := c1s.2.2.1.2.2.2.2.2.2.2.2.2.2.2.1 h218
  obtain ⟨em, ee, a66b, M, y1, y2, y3, y4⟩ := c1s.2.2.2.2.1 h218
  rw [em] at y1
  have h14 := hC.2.2.2.2.2.2.2.2.1.1
  -- the reference stands at the switch's own frame
  obtain ⟨m, V, g0, ev, tV, fr, tk, ⟨v64, v65, v66, v67, v68, v70, v71, v72⟩, ⟨vph, v10, v11, v17, v19, vi, va, vb⟩⟩ := sw_1 hC hM h36 h218 (Or.inr (Or.inl k10)) g
  obtain ⟨m2, V2, hV, g2⟩ := rl_14 g0 tV ev.1.2.1 v64
  unfold f_X12_groups at hV
  obtain ⟨-, hV⟩ := hf_ite hV
  rw [tp_nat tV, v65, if_neg (by decide), if_neg (by decide), if_pos rfl, if_pos (v10.trans k10)] at hV
  obtain ⟨p49, h49, hV⟩ := hf_bind hV
  obtain ⟨p51, h51, hV⟩ := hf_bind hV
  -- the class
  unfold f_X7_groupTurn at e
  rw [e_fnd1 k219, ob_some, if_neg n10] at e
  have e' : f_X7_groupTurn_20 N E1 E2 S c1.2.1 = some R := e
  unfold f_X7_groupTurn_20 at e'
  obtain ⟨p6, e6, e'⟩ := hf_bind e'
  have k6 : p6.2.i 43 = 219 := (nt_i e6).2.1.trans k219
  rw [e_fnd1 k6, ob_some, if_neg n10] at e'
  have e2 : f_X7_groupTurn_59 N E1 E2 p6.2 c1.2.1 p6.1 1 = some R := e'
  unfold f_X7_groupTurn_59 at e2
  obtain ⟨p15, e15, e2⟩ := hf_bind e2
  rw [if_neg n10] at e2
  obtain ⟨-, e2⟩ := hf_ite e2
  obtain ⟨p31, e31, e2⟩ := hf_bind e2
  obtain ⟨n6i, n6t, n6a, n6r, n6o, n6ol, n6b, n6l, n6h⟩ := nt_fr e6
  have hi := i11_hi hv
  have t21 := hv.t21
  obtain ⟨ev6, -, t6⟩ := ev.nt (by rw [v11]; omega) e6
  obtain ⟨a1, a2, a3, a4, a5, a6, a7, a8, a9, a10⟩ := ev6.adv hN (by rw [k6]; decide) e15 h49
  obtain ⟨-, -, -, -, -, -, -, -, -, -, adv, q17⟩ := ev6.w.adv hN (by rw [k6]; decide) e15 h49
  have l4 := ev6.1.2.2.2.2.2.2.1.2.2.2.2.2.2.1 (Or.inr k6)
  have ad := adv.2.2.1
  have k44 := ev6.1.2.2.2.1.1
  have k44' := a1.1.2.2.2.1.1
  rw [k44] at l4
  rw [k44'] at ad
  obtain ⟨-, -, -, -, -, -, -, -, -, -, j36, -, j38, j50, j53, j54, j55, j56, -, -, -, -, j52, jr, jo, jol, -, j21, jhk⟩ := pj_eq a3
  have po : p15.2.o = S.o := by rw [jo, n6o]
  have p22 : p15.2.i 22 = S.i 22 := by rw [a8, n6i 22 (by decide)]
  have p18 : p15.2.a 18 = S.a 18 := by rw [a9.1, n6a 18 (by decide)]
  have qT : ∀ k : Nat, 64 ≤ k → k ≤ 73 → p49.a k (ceT c1) = V.a k (ceT c1) := fun k h1 h2 => (FRB.of a2 : FRB (ceT c1 + 1) V p49).all k h1 h2
  have q25 : p49.a 25 = s.a 25 := by rw [qj_a a2 25 (by decide), va 25 (by decide)]
  have q27 : p49.a 27 = s.a 27 := by rw [qj_a a2 27 (by decide), va 27 (by decide)]
  have q28 : p49.a 28 = s.a 28 := by rw [qj_a a2 28 (by decide), va 28 (by decide)]
  have q22 : p49.a 22 = s.a 22 := by rw [a7, va 22 (by decide)]
  have q24 : p49.i 24 = s.i 24 := by rw [(qj_eq a2).2.2.2.2.1, vi 24 (by decide) (by decide)]
  have q66 : p49.a 66 (ceT c1) = s.a 66 (ceT c1) := by rw [qT 66 (by decide) (by decide)]; exact v66
  have q67 : p49.a 67 (ceT c1) = s.a 67 (ceT c1) := by rw [qT 67 (by decide) (by decide)]; exact v67
  have hc : CSE p15.2 p49 (S.o c1.2.1 13) M := by
    unfold CSE
    unfold CSM at y1
    rw [p22, p18, q25, q28]
    exact ⟨y1.1, y1.2.1.1, y1.2.2⟩
  have hl : chn p49 (p49.a 22 (p49.a 66 (ceT c1)).toNatClampNeg) M := by
    rw [q66, q22]
    exact chn.up (by rw [q24]; exact Int.le_refl _) (fun j _ => by rw [q27]) M _ y2
  have hq : FQL p49 (ceT c1) M := by
    unfold FQL at *
    rw [q67]
    exact y3
  have r5 := ev.2.2.2.2.2.2.2.2.2.2.1
  have v11' : (V.i 11).toInt = (s.i 11).toInt := by rw [v11]
  have r4 := ev.2.2.2.2.2.2.2.2.2.1
  rw [po] at e31
  have f31 : ¬ p31.2.i 32 = 0 → ¬ R.2.i 32 = 0 := fun z => by
    unfold f_X7_groupTurn_87 at e2
    obtain ⟨p21, e21, e2⟩ := hf_bind e2
    obtain ⟨p25, e25, e2⟩ := hf_bind e2
    obtain ⟨-, e2⟩ := hf_ite e2
    have z1 : ¬ p21.2.i 32 = 0 := by rw [kF_X1_expect N p31.2 58 p21 e21 z]; exact z
    have z2 : ¬ p25.2.i 32 = 0 := by rw [kF_X0_aim N p21.2 _ p25 e25 z1]; exact z1
    rw [← Option.some.inj e2]
    exact z2
  rcases y_caseNumber hN a1 (tp_nat tV) hc hl hq (by rw [p22]; omega) e31 h51 with ⟨o1, o2, o3⟩ | ⟨o1, cnx, cnc⟩
  · rw [if_pos o1] at hV
    refine Or.inl ⟨f31 o2, u_flt g2 ?_⟩
    rw [← Option.some.inj hV]
    exact o3
  rw [if_neg (by rw [o1]; decide)] at hV
  obtain ⟨S1, s1, v, h1', ⟨ea, eb, ei⟩, ⟨ep, e22, e18'⟩, ⟨b17, b11⟩, ⟨en, c1', c2, c3, c4, c5, c6, c7, c8, c9, c10, r1, r17, r20, r19, r63, r24, ra, r67, r25, r27, r22, ri, rb, -⟩, -⟩ := cnx
  have ev51 : ENV d p31.2 p51.2 := c10 (by rw [e22, p22]; omega)
  have s24 : s1.i 24 = s.i 24 := by rw [ei 24 (by decide) (by decide) (by decide) (by decide) (by decide), q24]
  have en24 : (s.i 24).toInt = (en : Int) := by rw [← s24]; exact c1'
  obtain ⟨-, -, -, -, -, -, -, -, -, -, k36, -, k38, k50, k53, k54, k55, k56, -, -, -, -, k52, kr, ko, kol, -, k21, khk⟩ := pj_eq (c5.trans ep)
  have sa : ∀ k : Nat, k ≠ 22 → k ≠ 25 → k ≠ 26 → k ≠ 27 → k ≠ 28 → k ≠ 67 → p51.2.a k = p49.a k := fun k h1 h2 h3 h4 h5 h6 => by rw [ra k h1 h2 h3 h4 h5 h6, ea]
  have si : ∀ k : Nat, k ≠ 10 → k ≠ 11 → k ≠ 12 → k ≠ 14 → k ≠ 17 → k ≠ 24 → p51.2.i k = p49.i k := fun k h1 h2 h3 h4 h5 h6 => by rw [ri k h1 h2 h3 h4 h5 h6, ei k h1 h2 h3 h4 h5]
  have fr51 : FRB (ceT c1) s p51.2 := fun j hj => by
    obtain ⟨g0, g1, g2, g3, g4, g5, g6, g7, g8, g9, gb⟩ := (fr.tr (FRB.of a2)) j hj
    have n67 : p51.2.a 67 j = p49.a 67 j := by rw [r67 j (by omega), ea]
    exact ⟨by rw [sa 64 (by decide) (by decide) (by decide) (by decide) (by decide) (by decide)]; exact g0, by rw [sa 65 (by decide) (by decide) (by decide) (by decide) (by decide) (by decide)]; exact g1, by rw [sa 66 (by decide) (by decide) (by decide) (by decide) (by decide) (by decide)]; exact g2, by rw [n67]; exact g3, by rw [sa 68 (by decide) (by decide) (by decide) (by decide) (by decide) (by decide)]; exact g4, by rw [sa 69 (by decide) (by decide) (by decide) (by decide) (by decide) (by decide)]; exact g5, by rw [sa 70 (by decide) (by decide) (by decide) (by decide) (by decide) (by decide)]; exact g6, by rw [sa 71 (by decide) (by decide) (by decide) (by decide) (by decide) (by decide)]; exact g7, by rw [sa 72 (by decide) (by decide) (by decide) (by decide) (by decide) (by decide)]; exact g8, by rw [sa 73 (by decide) (by decide) (by decide) (by decide) (by decide) (by decide)]; exact g9, by rw [rb, eb]; exact gb⟩
  have sT : ∀ k : Nat, 64 ≤ k → k ≤ 73 → k ≠ 67 → p51.2.a k (ceT c1) = V.a k (ceT c1) := fun k h1 h2 h3 => by
    rw [sa k (by omega) (by omega) (by omega) (by omega) (by omega) h3]
    exact qT k h1 h2
  have p11 : p31.2.o c1.2.1 11 = S.o c1.2.1 11 := by rw [ko, po]
  have lM := chn.lt M _ y2
  have hz9 : GRZ (gPut (S.a 17) 1024 p6.1 (-1)) p6.1 c1.2.1 (ceT c1) S s p31.2 p51.2 := by
    obtain ⟨⟨x20, x23, x38, x15, x16, x17⟩, x19, x19n, en2, x24, x26, x26o⟩ := cnc
    obtain ⟨w20, w15, w16, w17, w23, w38, w22, w19⟩ := pe_eq (ke_X9_advance N p6.2 p15 e15)
    obtain ⟨⟨q20', q24', q29', q33', q42', q52'⟩, q21', q22', q23', q25', q26', q27', q28', q30', q31', q32', q34', q35', q36', q37'⟩ := qe_eq (kre_f_X12_next N V p49 h49)
    have t17 : p6.2.a 17 = gPut (S.a 17) 1024 (S.i 21) (-1) ∧ p6.1 = S.i 21 := by
      unfold f_X0_newTarget at e6
      cases e6
      exact ⟨rfl, Int32.add_sub_cancel _ _⟩
    rw [q24] at x24
    have ee : en2 = en := by omega
    have cken : (s.i 24).toNatClampNeg = en := by
      have := clampI (show 0 ≤ (s.i 24).toInt by omega)
      omega
    have ka48 := (pj_eq (c5.trans ep))
    obtain ⟨-, -, -, -, -, -, -, -, -, -, -, -, -, -, -, -, -, -, -, -, xa48, xa49, -⟩ := ka48
    obtain ⟨-, -, -, -, -, -, -, -, -, -, -, -, -, -, -, -, -, -, -, -, xb48, xb49, -⟩ := pj_eq a3
    have e66 : p51.2.a 66 (ceT c1) = s.a 66 (ceT c1) := by
      rw [sT 66 (by decide) (by decide) (by decide)]
      exact v66
    have c3' := c3
    rw [e66] at c3'
    have lt0 : ∀ j ∈ M, j < en := fun j hj => by
      have := lM j hj
      omega
    have nov : ¬ ∃ j ∈ M, s.a 28 j = 0 ∧ s.a 25 j = v := fun z => by
      obtain ⟨i, i1, i2, i3⟩ := (y1.2.2 v).mpr z
      exact c9 ⟨i, i1, by rw [e22, p22]; exact i2, by rw [e18', p18]; exact i3⟩
    have s0 : 0 ≤ (S.i 22).toInt := by
      have := y1.1
      have := y1.2.1.1
      omega
    have vn : p31.2.a 18 (S.i 22).toInt.toNat = v := by
      have z := c8
      rw [e22, p22] at z
      exact z
    have l22 : (p31.2.i 22).toInt = (S.i 22).toInt + 1 := by
      rw [c6, e22, p22]
    have new : p51.2.a 28 en = 0 := by
      obtain ⟨j, j1, j2, j3⟩ := (c2.2.2 v).mp ⟨(S.i 22).toInt.toNat, by have := y1.2.1.1; omega, by omega, vn⟩
      rcases List.mem_append.mp j1 with z | z
      · have y := r25 j (lt0 j z)
        rw [y.2, ea, q28] at j2
        rw [y.1, ea, q25] at j3
        exact absurd ⟨j, z, j2, j3⟩ nov
      · rcases List.mem_cons.mp z with z | z
        · rw [← z]
          exact j2
        · exact absurd z List.not_mem_nil
    have sak : ∀ k : Nat, k ≠ 22 → k ≠ 25 → k ≠ 26 → k ≠ 27 → k ≠ 28 → k ≠ 67 → ¬ (64 ≤ k ∧ k ≤ 73) → p49.a k = V.a k → p51.2.a k = s.a k := fun k h1 h2 h3 h4 h5 h6 h7 h8 => by rw [sa k h1 h2 h3 h4 h5 h6, h8, va k h7]
    have sik : ∀ k : Nat, k ≠ 10 → k ≠ 11 → k ≠ 12 → k ≠ 14 → k ≠ 17 → k ≠ 24 → k ≠ 63 → k ≠ 75 → p49.i k = V.i k → p51.2.i k = s.i k := fun k h1 h2 h3 h4 h5 h6 h7 h8 h9 => by rw [si k h1 h2 h3 h4 h5 h6, h9, vi k h7 h8]
    obtain ⟨A2, A3, A8, -, A24, A29, A33, A38, -, A43, -, -, -, -, A56, A59, -⟩ := qj_eq a2
    refine ⟨⟨by rw [x20, w20, n6i 20 (by decide)], by rw [x15, w15, n6a 15 (by decide)], by rw [x16, w16, n6a 16 (by decide)], by rw [x23, w23, n6i 23 (by decide)], by rw [x38, w38, n6i 38 (by decide)], by rw [xa48, xb48, n6a 48 (by decide)], by rw [xa49, xb49, n6a 49 (by decide)]⟩, ⟨t17.2, by rw [k21, j21, n6t], by rw [x17, w17, t17.1, t17.2]⟩, fun k hk => by rw [x19 k (by rw [p22]; exact hk), w19, n6a 19 (by decide)], ⟨by omega, sik 20 (by decide) (by decide) (by decide) (by decide) (by decide) (by decide) (by decide) (by decide) a6, by rw [r24, s24], sik 29 (by decide) (by decide) (by decide) (by decide) (by decide) (by decide) (by decide) (by decide) q29', sik 33 (by decide) (by decide) (by decide) (by decide) (by decide) (by decide) (by decide) (by decide) q33', sik 42 (by decide) (by decide) (by decide) (by decide) (by decide) (by decide) (by decide) (by decide) q42', sik 52 (by decide) (by decide) (by decide) (by decide) (by decide) (by decide) (by decide) (by decide) q52', sik 38 (by decide) (by decide) (by decide) (by decide) (by decide) (by decide) (by decide) (by decide) A38, sik 43 (by decide) (by decide) (by decide) (by decide) (by decide) (by decide) (by decide) (by decide) A43, sik 59 (by decide) (by decide) (by decide) (by decide) (by decide) (by decide) (by decide) (by decide) A59⟩, fun k hk => ?_, fun j hj => ?_, fun j hj => ⟨?_, ?_, fun nj => ?_, ?_⟩, ?_, fun M' hM' => ?_, ?_, Or.inl ⟨l22, ?_, by rw [cken]; exact new, by rw [ko, po]⟩⟩
    · have z8 : p49.a k = V.a k := by
        rcases hk with z | z | z | z | z | z | z | z | z | z | z | z | z | z | z | z | z | z <;> rw [z]
        · exact q21'
        · exact q23'
        · exact q30'
        · exact q31'
        · exact q32'
        · exact q34'
        · exact q35'
        · exact q36'
        · exact q37'
        all_goals exact qj_a a2 _ (by decide)
      exact sak k (by omega) (by omega) (by omega) (by omega) (by omega) (by omega) (by omega) z8
    · have e66' : s1.a 66 (ceT c1) = s.a 66 (ceT c1) := by rw [ea]; exact q66
      rw [r22 j (by rw [e66']; exact hj), ea, q22]
    · rw [(r25 j (by omega)).1, ea, q25]
    · rw [x26o j (by omega), q26', va 26 (by decide)]
    · have z27 : p51.2.a 27 j = s.a 27 j := by
        by_cases hjM : j ∈ M
        · rcases lst_end M with w | ⟨L0, l, w⟩
          · rw [w] at hjM
            exact absurd hjM List.not_mem_nil
          · have al := y3.2 L0 l w
            rw [w] at hjM y2 c3
            rcases List.mem_append.mp hjM with k | k
            · exact chn.same L0 _ _ y2 c3 j k
            · rcases List.mem_cons.mp k with k | k
              · omega
              · exact absurd k List.not_mem_nil
        · rw [r27 j (by omega) hjM, ea, q27]
      exact z27
    · rw [(r25 j (by omega)).2, ea, q28]
    · rw [cken, ← ee, x26, a6, vi 20 (by decide) (by decide)]
    · rw [chn.uq _ _ _ hM' y2, cken]
      exact c3'
    · have z := c4.2 M en rfl
      omega
    · have z := x19n
      rw [p22] at z
      exact z
  refine gr_tail hN hC tp h218 bz hT ⟨⟨ev51, ?_, fr51⟩, ⟨?_, ?_, ?_, ?_, ?_, ?_, ?_⟩, fun k hk => ?_, ?_, ⟨?_, ?_, ?_⟩, fun k hk => ?_, fun j hj => ?_, ?_, fun M2 z1 z2 z3 => ?_, ⟨⟨?_, ?_⟩, fun a ha => ?_, fun k hk => ?_⟩, ⟨?_, ?_, ?_, ?_, ?_, ?_⟩, ⟨?_, ?_, fun i hi => ?_, ?_⟩, ⟨?_, ?_, ?_, ?_⟩⟩ hz9 e2 hV g2
  · show (p51.2.i 63).toInt = _
    rw [r63, ei 63 (by decide) (by decide) (by decide) (by decide) (by decide)]
    exact qj_63 a2 tV
  · rw [sT 64 (by decide) (by decide) (by decide)]
    exact v64
  · rw [sT 66 (by decide) (by decide) (by decide)]
    exact v66
  · rw [sT 71 (by decide) (by decide) (by decide)]
    exact v71
  · rw [sT 72 (by decide) (by decide) (by decide)]
    exact v72
  · rw [sT 68 (by decide) (by decide) (by decide), v68]
    exact f5
  · rw [sT 68 (by decide) (by decide) (by decide), v68, p11]
    exact f6
  · have z := c4.2 M en rfl
    omega
  · rw [si k (by omega) (by omega) (by omega) (by omega) (by omega) (by omega)]
    have w := vi k (by omega) (by omega)
    obtain ⟨A2, A3, A8, -, A24, A29, A33, A38, -, A43, -, -, -, -, A56, A59, -⟩ := qj_eq a2
    rcases hk with z | z | z | z | z | z | z | z | z | z <;> rw [z] at w ⊢
    · rw [A2, w]
    · rw [A3, w]
    · rw [A8, w]
    · rw [a6, w]
    · rw [A29, w]
    · rw [A33, w]
    · rw [A38, w]
    · rw [A43, w]
    · rw [A56, w]
    · rw [A59, w]
  · rw [r24, s24]
    omega
  · rw [rb, eb, (qj_b a2).1, vb]
  · rw [rb, eb, (qj_b a2).2.1, vb]
  · rw [rb, eb, (qj_b a2).2.2, vb]
  · rw [sa k (by omega) (by omega) (by omega) (by omega) (by omega) (by omega), qj_a a2 k (by omega), va k (by omega)]
  · have e66 : s1.a 66 (ceT c1) = s.a 66 (ceT c1) := by rw [ea]; exact q66
    rw [r22 j (by rw [e66]; exact hj), ea, q22]
  · rcases lst_end M with w | ⟨L0, l, w⟩
    · refine ⟨s.i 24, Or.inl ⟨y3.1 w, rfl⟩, fun j hj => ?_⟩
      have z := r25 j (by omega)
      rw [z.1, z.2, r27 j (by omega) (by rw [w]; exact List.not_mem_nil), ea, q25, q27, q28]
      exact ⟨rfl, rfl, rfl⟩
    · have al := y3.2 L0 l w
      refine ⟨s.a 67 (ceT c1), Or.inr ⟨by omega, rfl⟩, fun j hj => ?_⟩
      have ll := lM l (by rw [w]; exact List.mem_append_right _ List.mem_cons_self)
      have z := r25 j (by omega)
      have z27 : p51.2.a 27 j = s.a 27 j := by
        by_cases hjM : j ∈ M
        · rw [w] at hjM y2 c3
          rcases List.mem_append.mp hjM with k | k
          · exact chn.same L0 _ _ y2 c3 j k
          · rcases List.mem_cons.mp k with k | k
            · omega
            · exact absurd k List.not_mem_nil
        · rw [r27 j (by omega) hjM, ea, q27]
      rw [z.1, z.2, z27, ea, q25, q28]
      exact ⟨rfl, rfl, rfl⟩
  · have eM : M2 = M := chn.uq _ _ _ z2 y2
    have e66 : p51.2.a 66 (ceT c1) = s.a 66 (ceT c1) := by
      rw [sT 66 (by decide) (by decide) (by decide)]
      exact v66
    rw [e66] at c3
    refine ⟨M ++ [en], ?_, c3, c4, fun j hj => ?_⟩
    · unfold CSE at c2
      unfold CSM
      have lt0 : ∀ j ∈ M, j < en := fun j hj => by
        have := lM j hj
        omega
      have e25 : ∀ j ∈ M, p51.2.a 25 j = s.a 25 j ∧ p51.2.a 28 j = s.a 28 j := fun j hj => by
        have z := r25 j (lt0 j hj)
        rw [z.1, z.2, ea, q25, q28]
        exact ⟨rfl, rfl⟩
      have nM : ¬ en ∈ M := fun z => by
        have := lt0 en z
        omega
      have o18 : ∀ i : Nat, (i : Int) < (S.i 22).toInt → p31.2.a 18 i = S.a 18 i := fun i hi => by
        rw [c7 i (by rw [e22, p22]; exact hi), e18', p18]
      have l22 : (p31.2.i 22).toInt = (S.i 22).toInt + 1 := by
        rw [c6, e22, p22]
      have nov : ¬ ∃ j ∈ M, s.a 28 j = 0 ∧ s.a 25 j = v := fun z => by
        obtain ⟨i, i1, i2, i3⟩ := (y1.2.2 v).mpr z
        exact c9 ⟨i, i1, by rw [e22, p22]; exact i2, by rw [e18', p18]; exact i3⟩
      have s0 : 0 ≤ (S.i 22).toInt := by
        have := y1.1
        have := y1.2.1.1
        omega
      have vn : p31.2.a 18 (S.i 22).toInt.toNat = v := by
        have z := c8
        rw [e22, p22] at z
        exact z
      have new : p51.2.a 28 en = 0 ∧ p51.2.a 25 en = v := by
        obtain ⟨j, j1, j2, j3⟩ := (c2.2.2 v).mp ⟨(S.i 22).toInt.toNat, by have := y1.2.1.1; omega, by omega, vn⟩
        rcases List.mem_append.mp j1 with z | z
        · have y := e25 j z
          rw [y.2] at j2
          rw [y.1] at j3
          exact absurd ⟨j, z, j2, j3⟩ nov
        · rcases List.mem_cons.mp z with z | z
          · rw [← z]
            exact ⟨j2, j3⟩
          · exact absurd z List.not_mem_nil
      have n28 : nd (p51.2.a 28) (M ++ [en]) = nd (s.a 28) M + 1 := by
        rw [nd.app, nd.eq M (fun j hj => (e25 j hj).2)]
        show nd (s.a 28) M + (0 + (if p51.2.a 28 en = 0 then 1 else 0)) = _
        rw [if_pos new.1]
      have ym := y1.2.1.2.1
      refine ⟨c2.1, ⟨c2.2.1, by rw [n28]; omega, fun i j i1 i2 hj hz hv => ?_⟩, c2.2.2⟩
      rcases List.mem_append.mp hj with z | z
      · have y := e25 j z
        rw [y.2] at hz
        rw [y.1] at hv
        rw [ndx.app M _ z, ndx.eq M (fun j hj => (e25 j hj).2)]
        by_cases hi : (i : Int) < (S.i 22).toInt
        · rw [o18 i hi] at hv
          exact y1.2.1.2.2 i j i1 hi z hz hv
        · have ei' : i = (S.i 22).toInt.toNat := by omega
          rw [ei', vn] at hv
          exact absurd ⟨j, z, hz, hv.symm⟩ nov
      · rcases List.mem_cons.mp z with z | z
        · rw [z, ndx.new M nM, nd.eq M (fun j hj => (e25 j hj).2)]
          rw [z, new.2] at hv
          by_cases hi : (i : Int) < (S.i 22).toInt
          · rw [o18 i hi] at hv
            exact absurd ⟨i, i1, by rw [e22, p22]; exact hi, by rw [e18', p18]; exact hv⟩ c9
          · omega
        · exact absurd z List.not_mem_nil
    · rw [eM]
      rcases List.mem_append.mp hj with z | z
      · exact Or.inl z
      · rcases List.mem_cons.mp z with z | z
        · exact Or.inr (by omega)
        · exact absurd z List.not_mem_nil
  · rw [kr, jr, n6r]
  · rw [kol, jol, n6ol]
  · rw [ko, po]
  · rw [ko, po]
  · rw [k38, j38, n6i 38 (by decide)]
  · rw [k50, j50, n6i 50 (by decide)]
  · rw [k53, j53, n6i 53 (by decide)]
  · rw [k54, j54, n6i 54 (by decide)]
  · rw [k55, j55, n6i 55 (by decide)]
  · rw [k56, j56, n6i 56 (by decide)]
  · rw [k21, j21]
    exact t6
  · rw [c6, e22, p22]
    omega
  · rw [c7 i (by rw [e22, p22]; exact hi), e18', p18]
  · rw [k52, j52, n6a 52 (by decide)]
  · rw [v11] at k44 l4
    omega
  · unfold phI
    have w20 : p51.2.i 20 = s.i 20 := by rw [r20, ei 20 (by decide) (by decide) (by decide) (by decide) (by decide), a6, vi 20 (by decide) (by decide)]
    rw [w20]
    rw [v17] at q17
    omega
  · rw [v17] at q17
    omega
  · rw [r19, ei 19 (by decide) (by decide) (by decide) (by decide) (by decide), a10, vi 19 (by decide) (by decide)]
