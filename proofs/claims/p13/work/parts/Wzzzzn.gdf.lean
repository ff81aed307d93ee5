section
/-! both readers: default -/
set_option maxHeartbeats 4000000 in
theorem gr_dflt {N : Nat} (hN : 1000 ≤ N) {E1 : CS → Option (Unit × CS)} {E2 : CS → Option (Int32 × CS)} {d : Int32} {B : CS} {b : RS} {t0 n : Nat} {L : List CEL} {x : Int} {S : CS} {s U : RS} {c1 c : CEL} {R : Unit × CS} {Aj : JBA} (hC : COR d B b t0 (c1 :: c :: L) x S s) (tp : TOP S s c1) (hM : MLI c1 S s ∨ MSW c1 S s) (h36 : S.i 36 = 0 ∨ S.i 36 = 1) (h218 : S.o c1.2.1 0 = 218) (k220 : S.i 43 = 220) (bz : BAZ B b (c1 :: c :: L)) (hT : t0 ≤ ceT c1) (e : f_X7_groupTurn N E1 E2 S c1.2.1 = some R) (g : f_X12_parse_10 N n s = some U) : (¬ R.2.i 32 = 0 ∧ ¬ U.i 15 = 0) ∨ ∃ (m : Nat) (u : RS), f_X12_parse_10 N m u = some U ∧ POPD d B b t0 c1 (c :: L) R.2 u ∧ JTR Aj U B b (c1 :: c :: L) S s (vws R.2 u (c1 :: c :: L)) R.2 u := by
  have hv := hC.1
  have k10 := (tk_is hv (a := 220) (b := 430) (Or.inr ⟨by decide, by decide⟩) (by decide)).mp k220
  obtain ⟨m', e', k', c1s, lkl, stl⟩ := id hC.2.1
  obtain ⟨f1, f2, f3, f4, f5, f6⟩ := c1s.2.2.1.2.2.2.2.2.2.2.2.2.2.2.1 h218
  obtain ⟨em, ee, a66b, M, y1, y2, y3, y4⟩ := c1s.2.2.2.2.1 h218
  rw [em] at y1
  have h14 := hC.2.2.2.2.2.2.2.2.1.1
  obtain ⟨m, V, g0, ev, tV, fr, tk, ⟨v64, v65, v66, v67, v68, v70, v71, v72⟩, ⟨vph, v10, v11, v17, v19, vi, va, vb⟩⟩ := sw_1 hC hM h36 h218 (Or.inr (Or.inr (Or.inl k10))) g
  obtain ⟨m2, V2, hV, g2⟩ := rl_14 g0 tV ev.1.2.1 v64
  unfold f_X12_groups at hV
  obtain ⟨-, hV⟩ := hf_ite hV
  rw [tp_nat tV, v65, if_neg (by decide), if_neg (by decide), if_pos rfl, if_neg (by rw [v10, k10]; decide), if_pos (v10.trans k10)] at hV
  -- the class
  unfold f_X7_groupTurn at e
  rw [e_fnd0 (show ¬ S.i 43 = 219 by rw [k220]; decide), ob_some, if_pos rfl, e_fnd1 k220, ob_some, if_neg n10] at e
  have e' : f_X7_groupTurn_20 N E1 E2 S c1.2.1 = some R := e
  unfold f_X7_groupTurn_20 at e'
  obtain ⟨p6, e6, e'⟩ := hf_bind e'
  have k6 : p6.2.i 43 = 220 := (nt_i e6).2.1.trans k220
  rw [e_fnd0 (show ¬ p6.2.i 43 = 219 by rw [k6]; decide), ob_some, if_pos rfl] at e'
  obtain ⟨-, e'⟩ := hf_ite e'
  obtain ⟨n6i, n6t, n6a, n6r, n6o, n6ol, n6b, n6l, n6h⟩ := nt_fr e6
  have hi := i11_hi hv
  have t21 := hv.t21
  obtain ⟨ev6, w1, t6⟩ := ev.nt (by rw [v11]; omega) e6
  have o11 : p6.2.o c1.2.1 11 = S.o c1.2.1 11 := by rw [n6o]
  have e0 : (if S.o c1.2.1 11 < 0 then f_X7_groupTurn_59 N E1 E2 p6.2 c1.2.1 p6.1 0 else (f_X1_fail N p6.2 4 (p6.2.i 44)).bind fun p37 => f_X7_groupTurn_59 N E1 E2 p37.2 c1.2.1 p6.1 0) = some R := by
    rw [← o11]
    exact e'
  by_cases c11 : S.o c1.2.1 11 < 0
  rotate_left
  · -- there is one
    rw [if_neg c11] at e0
    have l0 : 0 ≤ (S.o c1.2.1 11).toInt := by
      by_cases z : 0 ≤ (S.o c1.2.1 11).toInt
      · exact z
      · exact absurd (Int32.lt_iff_toInt_lt.mpr (by rw [z_t0]; omega)) c11
    rw [if_pos (by rw [v68]; exact f6.mpr l0)] at hV
    obtain ⟨p47, h47, hV⟩ := hf_bind hV
    have f47 : ¬ p47.i 15 = 0 := by
      unfold f_X12_fail at h47
      rw [if_pos ev.1.2.1] at h47
      rw [← Option.some.inj h47]
      show ¬ (4 : Int32) = 0
      decide
    obtain ⟨p37, e37, e0⟩ := hf_bind e0
    have z1 : ¬ p37.2.i 32 = 0 := y_fail (by decide) e37
    refine Or.inl ⟨?_, u_flt g2 (by rw [← Option.some.inj hV]; exact f47)⟩
    unfold f_X7_groupTurn_59 f_X7_groupTurn_87 at e0
    obtain ⟨p15, e15, e0⟩ := hf_bind e0
    rw [if_pos rfl] at e0
    obtain ⟨-, e0⟩ := hf_ite e0
    obtain ⟨p21, e21, e0⟩ := hf_bind e0
    obtain ⟨p25, e25, e0⟩ := hf_bind e0
    obtain ⟨-, e0⟩ := hf_ite e0
    have z2 : ¬ p15.2.i 32 = 0 := by rw [kF_X9_advance N p37.2 p15 e15 z1]; exact z1
    have z3 : ¬ p21.2.i 32 = 0 := by rw [kF_X1_expect N _ 58 p21 e21 (show ¬ (CS.setO p15.2 c1.2.1 11 p6.1).i 32 = 0 from z2)]; exact z2
    have z4 : ¬ p25.2.i 32 = 0 := by rw [kF_X0_aim N p21.2 _ p25 e25 z3]; exact z3
    rw [← Option.some.inj e0]
    exact z4
  rw [if_pos c11] at e0
  have n68 : ¬ V.a 68 (ceT c1) = 1 := fun z => by
    rw [v68] at z
    have := f6.mp z
    have := lt_int c11
    rw [z_t0] at this
    omega
  rw [if_neg n68] at hV
  obtain ⟨p39, h39, hV⟩ := hf_bind hV
  obtain ⟨p41, h41, hV⟩ := hf_bind hV
  unfold f_X7_groupTurn_59 at e0
  obtain ⟨p15, e15, e0⟩ := hf_bind e0
  rw [if_pos rfl] at e0
  obtain ⟨-, e0⟩ := hf_ite e0
  have b1 : vp_nar .boolean (1 : Int32) = 1 := by decide
  have en := y_entry (t := ceT c1) (tp_nat tV) h39
  rw [b1] at en
  obtain ⟨W, hW⟩ : ∃ y, y = RS.setA V 68 (ceT c1) 1 := ⟨_, rfl⟩
  have Wi : W.i = V.i ∧ W.b = V.b ∧ W.l = V.l := by rw [hW]; exact ⟨rfl, rfl, rfl⟩
  have Wk : ∀ k : Nat, k ≠ 68 → W.a k = V.a k := fun k hk => by rw [hW, setA_nk hk]
  have W68 : W.a 68 (ceT c1) = 1 := by rw [hW]; exact setA_at
  have W68j : ∀ j : Nat, j ≠ ceT c1 → W.a 68 j = V.a 68 j := fun j hj => by rw [hW]; exact setA_ne hj
  rw [← hW] at en
  clear hW
  have q66 : W.a 66 (ceT c1) = s.a 66 (ceT c1) := by rw [Wk 66 (by decide)]; exact v66
  have hl : chn W (W.a 22 (W.a 66 (ceT c1)).toNatClampNeg) M := by
    rw [q66, Wk 22 (by decide), va 22 (by decide)]
    exact chn.up (by rw [Wi.1, vi 24 (by decide) (by decide)]; exact Int.le_refl _) (fun j _ => by rw [Wk 27 (by decide), va 27 (by decide)]) M _ y2
  have hq : FQL W (ceT c1) M := by
    unfold FQL at *
    rw [Wk 67 (by decide), v67]
    exact y3
  obtain ⟨en0, k1, k2, k3, k4, k5, k6', k7, k8⟩ := en.chain hl hq
  obtain ⟨n1, n2, n3, n4, n5, n6, n7, n8, n9, n10', n26⟩ := id en
  have i24 : W.i 24 = s.i 24 := by rw [Wi.1, vi 24 (by decide) (by decide)]
  have en24 : (s.i 24).toInt = (en0 : Int) := by rw [← i24]; exact k1
  have na : ∀ k : Nat, k ≠ 22 → k ≠ 25 → k ≠ 26 → k ≠ 27 → k ≠ 28 → k ≠ 67 → k ≠ 68 → p39.a k = V.a k := fun k h1 h2 h3 h4 h5 h6 h7 => by rw [n7 k h1 h2 h3 h4 h5 h6, Wk k h7]
  have ni : ∀ k : Nat, k ≠ 24 → p39.i k = V.i k := fun k hk => by rw [n8 k hk, Wi.1]
  have nb : p39.b = V.b := by rw [n9, Wi.2.1]
  have nl : p39.l = V.l := by rw [n10', Wi.2.2]
  have ph39 : phI p39 = phI V := by
    unfold phI
    rw [ni 17 (by decide), ni 20 (by decide)]
  have ev39 : ENV d p6.2 p39 := ev6.kq (ni 38 (by decide)) (ni 2 (by decide)) (ni 3 (by decide)) (ni 18 (by decide)) (ni 53 (by decide)) (ni 54 (by decide)) (ni 55 (by decide)) (na 1 (by decide) (by decide) (by decide) (by decide) (by decide) (by decide) (by decide)) (na 4 (by decide) (by decide) (by decide) (by decide) (by decide) (by decide) (by decide)) (na 41 (by decide) (by decide) (by decide) (by decide) (by decide) (by decide) (by decide)) (by rw [nb]) (by rw [nb]) (ni 10 (by decide)) (ni 11 (by decide)) (ni 12 (by decide)) (ni 14 (by decide)) (ni 15 (by decide)) (ni 17 (by decide)) (ni 19 (by decide)) nl ⟨by rw [ni 20 (by decide)]; exact ev6.2.2.2.2.2.2.1, by rw [ph39]; exact ev6.2.2.2.2.2.2.2.1⟩ (ev6.wp.of (by rw [ni 43 (by decide)]; exact Int.le_refl _) (ni 56 (by decide)) (ni 59 (by decide)) (ni 29 (by decide)) (na 58 (by decide) (by decide) (by decide) (by decide) (by decide) (by decide) (by decide)) (na 62 (by decide) (by decide) (by decide) (by decide) (by decide) (by decide) (by decide)))
  obtain ⟨a1, a2, a3, a4, a5, a6, a7, a8, a9, a10⟩ := ev39.adv hN (by rw [k6]; decide) e15 h41
  obtain ⟨-, -, -, -, -, -, -, -, -, -, adv, q17⟩ := ev39.w.adv hN (by rw [k6]; decide) e15 h41
  have l4 := ev39.1.2.2.2.2.2.2.1.2.2.2.2.2.1 (Or.inl (by rw [k6]; decide))
  have ad := adv.2.2.1
  have k44 := ev39.1.2.2.2.1.1
  have k44' := a1.1.2.2.2.1.1
  rw [k44] at l4
  rw [k44'] at ad
  have n11 : (p39.i 11).toInt = (s.i 11).toInt := by rw [ni 11 (by decide), v11]
  have n17 : (p39.i 17).toInt = (s.i 17).toInt := by rw [ni 17 (by decide), v17]
  obtain ⟨-, -, -, -, -, -, -, -, -, -, j36, -, j38, j50, j53, j54, j55, j56, -, -, -, -, j52, jr, jo, jol, -, j21, jhk⟩ := pj_eq a3
  have po : p15.2.o = S.o := by rw [jo, n6o]
  have p22 : p15.2.i 22 = S.i 22 := by rw [a8, n6i 22 (by decide)]
  have p18 : p15.2.a 18 = S.a 18 := by rw [a9.1, n6a 18 (by decide)]
  have qT : ∀ k : Nat, 64 ≤ k → k ≤ 73 → p41.a k (ceT c1) = p39.a k (ceT c1) := fun k h1 h2 => (FRB.of a2 : FRB (ceT c1 + 1) p39 p41).all k h1 h2
  have sT : ∀ k : Nat, 64 ≤ k → k ≤ 73 → k ≠ 67 → k ≠ 68 → p41.a k (ceT c1) = V.a k (ceT c1) := fun k h1 h2 h3 h4 => by
    rw [qT k h1 h2, na k (by omega) (by omega) (by omega) (by omega) (by omega) h3 h4]
  have q68 : p41.a 68 (ceT c1) = 1 := by
    rw [qT 68 (by decide) (by decide), n7 68 (by decide) (by decide) (by decide) (by decide) (by decide) (by decide)]
    exact W68
  have q25 : p41.a 25 = p39.a 25 := qj_a a2 25 (by decide)
  have q27 : p41.a 27 = p39.a 27 := qj_a a2 27 (by decide)
  have q28 : p41.a 28 = p39.a 28 := qj_a a2 28 (by decide)
  have q24 : p41.i 24 = p39.i 24 := (qj_eq a2).2.2.2.2.1
  have w25 : W.a 25 = s.a 25 := by rw [Wk 25 (by decide), va 25 (by decide)]
  have w27 : W.a 27 = s.a 27 := by rw [Wk 27 (by decide), va 27 (by decide)]
  have w28 : W.a 28 = s.a 28 := by rw [Wk 28 (by decide), va 28 (by decide)]
  have lM := chn.lt M _ y2
  have evP : ENV d (CS.setO p15.2 c1.2.1 11 p6.1) p41 := a1.so (by decide)
  have Po : ∀ a : Nat, a ≠ c1.2.1 → (CS.setO p15.2 c1.2.1 11 p6.1).o a = S.o a := fun a ha => by rw [so_ne ha, po]
  have Pk : ∀ k : Nat, k ≠ 11 → (CS.setO p15.2 c1.2.1 11 p6.1).o c1.2.1 k = S.o c1.2.1 k := fun k hk => by rw [so_nk hk, po]
  have P11 : (CS.setO p15.2 c1.2.1 11 p6.1).o c1.2.1 11 = p6.1 := so_at
  have Pi : (CS.setO p15.2 c1.2.1 11 p6.1).i = p15.2.i := rfl
  have Pa : (CS.setO p15.2 c1.2.1 11 p6.1).a = p15.2.a := rfl
  have Pr : (CS.setO p15.2 c1.2.1 11 p6.1).r = p15.2.r ∧ (CS.setO p15.2 c1.2.1 11 p6.1).ol = p15.2.ol := ⟨rfl, rfl⟩
  obtain ⟨P, hP⟩ : ∃ P, P = CS.setO p15.2 c1.2.1 11 p6.1 := ⟨_, rfl⟩
  rw [← hP] at evP Po Pk P11 Pi Pa Pr e0
  clear hP
  have fr41 : FRB (ceT c1) s p41 := by
    refine (fr.tr (fun j hj => ?_)).tr (FRB.of a2)
    have n67 : p39.a 67 j = V.a 67 j := by
      rw [n5]
      show (if j = ceT c1 then W.i 24 else W.a 67 j) = _
      rw [if_neg (by omega), Wk 67 (by decide)]
    have n68' : p39.a 68 j = V.a 68 j := by rw [n7 68 (by decide) (by decide) (by decide) (by decide) (by decide) (by decide), W68j j (by omega)]
    have nk : ∀ k : Nat, 64 ≤ k → k ≤ 73 → k ≠ 67 → k ≠ 68 → p39.a k j = V.a k j := fun k h1 h2 h3 h4 => by rw [na k (by omega) (by omega) (by omega) (by omega) (by omega) h3 h4]
    exact ⟨nk 64 (by decide) (by decide) (by decide) (by decide), nk 65 (by decide) (by decide) (by decide) (by decide), nk 66 (by decide) (by decide) (by decide) (by decide), n67, n68', nk 69 (by decide) (by decide) (by decide) (by decide), nk 70 (by decide) (by decide) (by decide) (by decide), nk 71 (by decide) (by decide) (by decide) (by decide), nk 72 (by decide) (by decide) (by decide) (by decide), nk 73 (by decide) (by decide) (by decide) (by decide), by rw [nb]⟩
  have k3' : FQL p41 (ceT c1) (M ++ [en0]) := by
    unfold FQL at *
    rw [qT 67 (by decide) (by decide)]
    exact k3
  have hz9 : GRZ (gPut (S.a 17) 1024 p6.1 (-1)) p6.1 c1.2.1 (ceT c1) S s P p41 := by
    obtain ⟨w20, w15, w16, w17, w23, w38, w22, w19⟩ := pe_eq (ke_X9_advance N p6.2 p15 e15)
    obtain ⟨⟨q20', q24', q29', q33', q42', q52'⟩, q21', q22', q23', q25', q26', q27', q28', q30', q31', q32', q34', q35', q36', q37'⟩ := qe_eq (kre_f_X12_next N p39 p41 h41)
    have t17 : p6.2.a 17 = gPut (S.a 17) 1024 (S.i 21) (-1) ∧ p6.1 = S.i 21 := by
      unfold f_X0_newTarget at e6
      cases e6
      exact ⟨rfl, Int32.add_sub_cancel _ _⟩
    have cken : (s.i 24).toNatClampNeg = en0 := by
      have := clampI (show 0 ≤ (s.i 24).toInt by omega)
      omega
    obtain ⟨-, -, -, -, -, -, -, -, -, -, -, -, -, -, -, -, -, -, -, -, xb48, xb49, -⟩ := pj_eq a3
    have e66 : p39.a 66 (ceT c1) = s.a 66 (ceT c1) := by
      rw [na 66 (by decide) (by decide) (by decide) (by decide) (by decide) (by decide) (by decide)]
      exact v66
    have k2' := k2
    rw [e66] at k2'
    have sak : ∀ k : Nat, k ≠ 22 → k ≠ 25 → k ≠ 26 → k ≠ 27 → k ≠ 28 → k ≠ 67 → k ≠ 68 → ¬ (64 ≤ k ∧ k ≤ 73) → p41.a k = p39.a k → p41.a k = s.a k := fun k h1 h2 h3 h4 h5 h6 h7 h8 h9 => by rw [h9, na k h1 h2 h3 h4 h5 h6 h7, va k h8]
    have sik : ∀ k : Nat, k ≠ 24 → k ≠ 63 → k ≠ 75 → p41.i k = p39.i k → p41.i k = s.i k := fun k h6 h7 h8 h9 => by rw [h9, ni k h6, vi k h7 h8]
    obtain ⟨A2, A3, A8, -, A24, A29, A33, A38, -, A43, -, -, -, -, A56, A59, -⟩ := qj_eq a2
    have n24 : (p41.i 24).toInt = (s.i 24).toInt + 1 := by
      rw [q24, n1, i24, ad1 (by omega) (by rw [← i24]; have := n2.2; omega)]
    have a26 : ∀ j : Nat, p41.a 26 j = if j = en0 then s.i 20 else s.a 26 j := fun j => by
      rw [q26', n26]
      show (if j = (W.i 24).toNatClampNeg then W.i 20 else W.a 26 j) = _
      rw [i24, cken, Wk 26 (by decide), Wi.1, va 26 (by decide), vi 20 (by decide) (by decide)]
    refine ⟨⟨by rw [Pi, w20, n6i 20 (by decide)], by rw [Pa, w15, n6a 15 (by decide)], by rw [Pa, w16, n6a 16 (by decide)], by rw [Pi, w23, n6i 23 (by decide)], by rw [Pi, w38, n6i 38 (by decide)], by rw [Pa, xb48, n6a 48 (by decide)], by rw [Pa, xb49, n6a 49 (by decide)]⟩, ⟨t17.2, by rw [Pi, j21, n6t], by rw [Pa, w17, t17.1, t17.2]⟩, fun k _ => by rw [Pa, w19, n6a 19 (by decide)], ⟨by omega, sik 20 (by decide) (by decide) (by decide) a6, n24, sik 29 (by decide) (by decide) (by decide) q29', sik 33 (by decide) (by decide) (by decide) q33', sik 42 (by decide) (by decide) (by decide) q42', sik 52 (by decide) (by decide) (by decide) q52', sik 38 (by decide) (by decide) (by decide) A38, sik 43 (by decide) (by decide) (by decide) A43, sik 59 (by decide) (by decide) (by decide) A59⟩, fun k hk => ?_, fun j hj => ?_, fun j hj => ⟨?_, ?_, fun nj => ?_, ?_⟩, ?_, fun M' hM' => ?_, ?_, Or.inr ⟨by rw [Pi]; exact p22, ?_, P11, ?_⟩⟩
    · have z8 : p41.a k = p39.a k := by
        rcases hk with z | z | z | z | z | z | z | z | z | z | z | z | z | z | z | z | z | z <;> rw [z]
        · exact q21'
        · exact q23'
        · exact q30'
        · exact q31'
        · exact q32'
        · exact q34'
        · exact q35'
        · exact q36'
        · exact q37'
        all_goals exact qj_a a2 _ (by decide)
      exact sak k (by omega) (by omega) (by omega) (by omega) (by omega) (by omega) (by omega) (by omega) z8
    · rw [a7, k8 j (by rw [q66]; exact hj), Wk 22 (by decide), va 22 (by decide)]
    · rw [q25, (k6' j (by omega)).1, w25]
    · rw [a26, if_neg (by omega)]
    · rw [q27]
      by_cases hjM : j ∈ M
      · rcases lst_end M with w | ⟨L0, l, w⟩
        · rw [w] at hjM
          exact absurd hjM List.not_mem_nil
        · have al := y3.2 L0 l w
          rw [w] at hjM y2 k2
          rcases List.mem_append.mp hjM with k | k
          · exact chn.same L0 _ _ y2 k2 j k
          · rcases List.mem_cons.mp k with k | k
            · omega
            · exact absurd k List.not_mem_nil
      · rw [k7 j (by omega) hjM, w27]
    · rw [q28, (k6' j (by omega)).2, w28]
    · rw [cken, a26, if_pos rfl]
    · rw [chn.uq _ _ _ hM' y2, cken, a7]
      exact chn.up (by rw [q24]; exact Int.le_refl _) (fun j _ => by rw [q27]) _ _ k2'
    · have z := k3'.2 M en0 rfl
      omega
    · rw [cken, q28, k5]
      decide
    · have := lt_int c11
      rw [z_t0] at this
      exact this
  refine gr_tail hN hC tp h218 bz hT ⟨⟨evP, qj_63 a2 (show tpI p39 = _ by show (p39.i 63).toInt = _; rw [ni 63 (by decide)]; exact tV), fr41⟩, ⟨?_, ?_, ?_, ?_, Or.inr q68, ⟨fun _ => by rw [P11, w1]; exact t21.1, fun _ => q68⟩, ?_⟩, fun k hk => ?_, ?_, ⟨?_, ?_, ?_⟩, fun k hk => ?_, fun j hj => ?_, ?_, fun M2 z1 z2 z3 => ?_, ⟨⟨?_, ?_⟩, Po, Pk⟩, ⟨?_, ?_, ?_, ?_, ?_, ?_⟩, ⟨?_, ?_, fun i hi => ?_, ?_⟩, ⟨?_, ?_, ?_, ?_⟩⟩ hz9 e0 hV g2
  · rw [sT 64 (by decide) (by decide) (by decide) (by decide)]
    exact v64
  · rw [sT 66 (by decide) (by decide) (by decide) (by decide)]
    exact v66
  · rw [sT 71 (by decide) (by decide) (by decide) (by decide)]
    exact v71
  · rw [sT 72 (by decide) (by decide) (by decide) (by decide)]
    exact v72
  · have z := k3'.2 M en0 rfl
    omega
  · have w := vi k (by omega) (by omega)
    have w2 := ni k (by omega)
    obtain ⟨A2, A3, A8, -, A24, A29, A33, A38, -, A43, -, -, -, -, A56, A59, -⟩ := qj_eq a2
    rcases hk with z | z | z | z | z | z | z | z | z | z <;> rw [z] at w w2 ⊢
    · rw [A2, w2, w]
    · rw [A3, w2, w]
    · rw [A8, w2, w]
    · rw [a6, w2, w]
    · rw [A29, w2, w]
    · rw [A33, w2, w]
    · rw [A38, w2, w]
    · rw [A43, w2, w]
    · rw [A56, w2, w]
    · rw [A59, w2, w]
  · rw [q24, n1, i24, ad1 (by omega) (by rw [← i24]; have := n2.2; omega)]
    omega
  · rw [(qj_b a2).1, nb, vb]
  · rw [(qj_b a2).2.1, nb, vb]
  · rw [(qj_b a2).2.2, nb, vb]
  · rw [qj_a a2 k (by omega), na k (by omega) (by omega) (by omega) (by omega) (by omega) (by omega) (by omega), va k (by omega)]
  · rw [a7, k8 j (by rw [q66]; exact hj), Wk 22 (by decide), va 22 (by decide)]
  · rcases lst_end M with w | ⟨L0, l, w⟩
    · refine ⟨s.i 24, Or.inl ⟨y3.1 w, rfl⟩, fun j hj => ?_⟩
      have z := k6' j (by omega)
      rw [q25, q27, q28, z.1, z.2, k7 j (by omega) (by rw [w]; exact List.not_mem_nil), w25, w27, w28]
      exact ⟨rfl, rfl, rfl⟩
    · have al := y3.2 L0 l w
      refine ⟨s.a 67 (ceT c1), Or.inr ⟨by omega, rfl⟩, fun j hj => ?_⟩
      have ll := lM l (by rw [w]; exact List.mem_append_right _ List.mem_cons_self)
      have z := k6' j (by omega)
      have z27 : p39.a 27 j = s.a 27 j := by
        by_cases hjM : j ∈ M
        · rw [w] at hjM y2 k2
          rcases List.mem_append.mp hjM with k | k
          · exact chn.same L0 _ _ y2 k2 j k
          · rcases List.mem_cons.mp k with k | k
            · omega
            · exact absurd k List.not_mem_nil
        · rw [k7 j (by omega) hjM, w27]
      rw [q25, q27, q28, z.1, z.2, z27, w25, w28]
      exact ⟨rfl, rfl, rfl⟩
  · have eM : M2 = M := chn.uq _ _ _ z2 y2
    have e66 : p39.a 66 (ceT c1) = s.a 66 (ceT c1) := by
      rw [na 66 (by decide) (by decide) (by decide) (by decide) (by decide) (by decide) (by decide)]
      exact v66
    rw [e66] at k2
    refine ⟨M ++ [en0], ?_, ?_, k3', fun j hj => ?_⟩
    · unfold CSM at y1 ⊢
      rw [Pi, Pa, p22, p18, q25, q28]
      have e28 : ∀ j ∈ M, p39.a 28 j = s.a 28 j := fun j hj => by
        rw [(k6' j (by have := lM j hj; omega)).2, w28]
      have n28 : nd (p39.a 28) (M ++ [en0]) = nd (s.a 28) M := by
        rw [nd.app, nd.eq M e28]
        show nd (s.a 28) M + (0 + (if p39.a 28 en0 = 0 then 1 else 0)) = nd (s.a 28) M
        rw [k5, if_neg (by decide)]
        omega
      refine ⟨y1.1, ⟨y1.2.1.1, by rw [n28]; exact y1.2.1.2.1, fun i j i1 i2 hj hz hv => ?_⟩, fun v => ?_⟩
      · rcases List.mem_append.mp hj with z | z
        · have y := k6' j (by have := lM j z; omega)
          rw [ndx.app M _ z, ndx.eq M e28]
          rw [y.2, w28] at hz
          rw [y.1, w25] at hv
          exact y1.2.1.2.2 i j i1 i2 z hz hv
        · rcases List.mem_cons.mp z with z | z
          · rw [z, k5] at hz
            exact absurd hz (by decide)
          · exact absurd z List.not_mem_nil
      rw [y1.2.2 v]
      constructor
      · rintro ⟨j, j1, j2, j3⟩
        have z := k6' j (by have := lM j j1; omega)
        exact ⟨j, List.mem_append_left _ j1, by rw [z.2, w28]; exact j2, by rw [z.1, w25]; exact j3⟩
      · rintro ⟨j, j1, j2, j3⟩
        rcases List.mem_append.mp j1 with z | z
        · have y := k6' j (by have := lM j z; omega)
          rw [y.2, w28] at j2
          rw [y.1, w25] at j3
          exact ⟨j, z, j2, j3⟩
        · rcases List.mem_cons.mp z with z | z
          · rw [z, k5] at j2
            exact absurd j2 (by decide)
          · exact absurd z List.not_mem_nil
    · rw [a7]
      exact chn.up (by rw [q24]; exact Int.le_refl _) (fun j _ => by rw [q27]) _ _ k2
    · rw [eM]
      rcases List.mem_append.mp hj with z | z
      · exact Or.inl z
      · rcases List.mem_cons.mp z with z | z
        · exact Or.inr (by omega)
        · exact absurd z List.not_mem_nil
  · rw [Pr.1, jr, n6r]
  · rw [Pr.2, jol, n6ol]
  · rw [Pi, j38, n6i 38 (by decide)]
  · rw [Pi, j50, n6i 50 (by decide)]
  · rw [Pi, j53, n6i 53 (by decide)]
  · rw [Pi, j54, n6i 54 (by decide)]
  · rw [Pi, j55, n6i 55 (by decide)]
  · rw [Pi, j56, n6i 56 (by decide)]
  · rw [Pi, j21]
    exact t6
  · rw [Pi, p22]
    exact Int.le_refl _
  · rw [Pa, p18]
  · rw [Pa, j52, n6a 52 (by decide)]
  · omega
  · unfold phI
    have w20 : p41.i 20 = s.i 20 := by rw [a6, ni 20 (by decide), vi 20 (by decide) (by decide)]
    rw [w20]
    omega
  · omega
  · rw [a10, ni 19 (by decide), vi 19 (by decide) (by decide)]
end
section
/-! both readers: the rows that are open, between turns -/
section
variable {A : JBA} {U : RS} {B : CS} {b : RS} {V : List RVW} {S R : CS} {s u : RS}
/-- nothing of the code changes -/
theorem JRW.mv (h : JRW A U B b V S s) (dR : D38 S R) (i38 : R.i 38 = S.i 38) (i36 : R.i 36 = S.i 36) (i43 : R.i 43 = S.i 43) (a48 : R.a 48 = S.a 48) (a49 : R.a 49 = S.a 49) (du : D52 s u) (ui : u.i 38 = s.i 38 ∧ u.i 52 = s.i 52 ∧ u.i 11 = s.i 11 ∧ u.i 19 = s.i 19 ∧ u.i 43 = s.i 43 ∧ u.i 59 = s.i 59) (ua : u.a 40 = s.a 40 ∧ u.a 47 = s.a 47 ∧ u.a 48 = s.a 48 ∧ u.a 49 = s.a 49 ∧ u.a 50 = s.a 50 ∧ u.a 51 = s.a 51 ∧ u.a 60 = s.a 60 ∧ u.a 61 = s.a 61 ∧ u.a 62 = s.a 62) : JRW A U B b V R u := by
  intro crB
  obtain ⟨⟨e, he, k1⟩, k2, k3, Ψ, G, col, YJ, sax, pin, tgi, ⟨jsi, ⟨e', he', kD⟩, hds, swt⟩, main⟩ := h crB
  obtain ⟨u38, u52, u11, u19, u43, u59⟩ := ui
  obtain ⟨v40, v47, v48, v49, v50, v51, v60, v61, v62⟩ := ua
  have gkv : GKV V s u := ⟨fun q hq go => by
    have z := (jsi.1 q hq go).1
    rw [v50, v51, v48, v49, v47, u43]
    exact ⟨z, rfl, rfl, rfl, rfl, rfl⟩, by rw [u59]; exact Int.le_refl _, fun j _ => by
    rw [v60, v61, v62]
    exact ⟨rfl, rfl, rfl⟩⟩
  have js : JSI Ψ V col YJ b u := jsi.mw gkv (by rw [du.1.1]; exact Int.le_refl _) (by rw [du.1.2.2.1]; exact Int.le_refl _) (fun j _ => by rw [du.2.2.1]) (fun y _ _ => by rw [du.2.2.2.2.2.2.2.2.2.1]) (fun _ _ q => q)
  refine ⟨⟨e, by rw [i43]; exact he, k1.d dR⟩, ⟨fun k a1 a2 => by rw [dR.2.2.2.1]; exact k2.1 k a1 a2, k2.2.nk (NK.eq a48 a49 u52 u38)⟩, k3.d du, Ψ, G, col, YJ, sax.d dR du, pin.d du, tgi.d dR, ⟨js, ⟨e', by rw [i43]; exact he', kD.d dR⟩, fun q hq x hx => by rw [dR.2.2.2.1, dR.1.2.1, dR.1.1]; exact hds q hq x hx, swt.d dR du⟩, ?_⟩
  intro FC SF nm X h0 ω c0 psi ng0 hc0 hh0 hω
  obtain ⟨⟨ng, hc, hh, dp⟩, mn⟩ := main FC SF nm X h0 ω c0 psi ng0 hc0 hh0 hω
  have pC : pcC R = pcC S := by
    unfold pcC
    rw [dR.1.1]
  have pR : pcR u = pcR s := by
    unfold pcR
    rw [du.1.1]
  refine ⟨⟨⟨fun k hk => ?_, by rw [i38]; exact ng.2.1, by rw [u52]; exact ng.2.2.1, by rw [u19]; exact ng.2.2.2.1, ng.2.2.2.2.d dR du⟩, hc, by rw [u11]; exact hh, dp.mv V (fun q hq go => by rw [v47]) (by rw [u11]; exact Int.le_refl _)⟩, fun fc fg hA tyc jr cur => mn (fc.d dR) (fg.d du) hA tyc jr (fun z => ?_)⟩
  · rw [a48, a49, v40]
    exact ng.1 k (by rw [← u38]; exact hk)
  · have y := cur (by rw [i36]; exact z)
    rw [pC, pR] at y
    exact y
theorem JRW.x (h : JRW A U B b V S s) : JRX A U B b V S s := ⟨fun r V' e z crB => absurd z (h.n5 crB r (by rw [e]; exact List.mem_cons_self)), fun _ => h⟩
theorem JRX.w {c : CEL} {L : List CEL} (h : JRX A U B b (vws S s (c :: L)) S s) (n5 : ¬ S.o c.2.1 0 = 305) : JRW A U B b (vws S s (c :: L)) S s := h.2 (fun r V' e => by
  cases e
  exact n5)
end
/-- the number of kinds is known -/
theorem COR.ku3 {d : Int32} {B : CS} {b : RS} {t0 : Nat} {L : List CEL} {x : Int} {S : CS} {s U : RS} (h : COR d B b t0 L x S s) (k : KU3 U b) : KU3 U s := ⟨k.1.trans h.2.2.2.2.2.1.2.2.2.2.1.symm, k.2⟩
section
variable {A : JBA} {U : RS} {B : CS} {b : RS} {S : CS} {s : RS} {r r' : RVW}
theorem v300 (v0 : r.v = 300) : (∀ k : Nat, ¬ rsite r k) ∧ ¬ isTyv r ∧ ¬ isGo r.v ∧ (∀ x : Int32, ¬ rhd r x) ∧ rtgs r = [] ∧ (∀ (G : GHT) (ω h l : Nat), jen G ω r h l = []) ∧ ¬ r.v = 218 ∧ ¬ (r.v = 218 ∨ r.v = 995) := by
  refine ⟨fun k h => ?_, ?_, ?_, fun x h => ?_, ?_, fun G ω h l => ?_, by rw [v0]; decide, by rw [v0]; decide⟩
  · unfold rsite at h
    rw [v0] at h
    rcases h with ⟨h, -⟩ | ⟨h, -⟩ | ⟨h, -⟩ | ⟨h, -⟩ <;> exact absurd h (by decide)
  · unfold isTyv isTy
    rw [v0]
    decide
  · unfold isGo
    rw [v0]
    decide
  · unfold rhd at h
    rw [v0] at h
    rcases h with ⟨h, -⟩ | ⟨h, -⟩ | ⟨h, -⟩ <;> exact absurd h (by decide)
  · unfold rtgs
    rw [v0, if_neg (by decide), if_neg (by decide), if_neg (by decide), if_neg (by decide), if_neg (by decide)]
  · unfold jen
    rw [v0, if_neg (by decide), if_neg (by decide), if_neg (by decide), if_neg (by decide), if_neg (by decide)]
theorem JRW.r0 (h : JRW A U B b [r] S s) (e1 : r'.1 = r.1) (e2 : r'.2.2 = r.2.2) (v0 : r.v = 300) : JRW A U B b [r'] S s := by
  intro crB
  have ev : r'.v = r.v := congrFun e1 0
  have v0' : r'.v = 300 := ev.trans v0
  obtain ⟨s1, t1, g1, d1, l1, j1, n1, m1⟩ := v300 v0
  obtain ⟨s2, t2, g2, d2, l2, j2, n2, m2⟩ := v300 v0'
  obtain ⟨k1, k2, k3, Ψ, G, col, YJ, sax, pin, tgi, ⟨jsi, kD, hds, swt⟩, main⟩ := h crB
  have mem : ∀ {P : RVW → Prop} {q : RVW}, q ∈ [r'] → P r' → P q := fun hq p => by rw [List.mem_singleton.mp hq]; exact p
  have nx : ∀ {P : RVW → Prop} {q : RVW}, ¬ P q → (∃ w ∈ [q], P w) → False := fun hn ⟨w, hw, p⟩ => hn (by rw [← List.mem_singleton.mp hw]; exact p)
  have pe : ∀ {q q' : RVW} (k : Nat), (∀ k : Nat, ¬ rsite q k) → PEN [q] col k → PEN [q'] col k := fun k hn p => p.elim Or.inl (fun z => (nx (P := fun w => rsite w k) (hn k) z).elim)
  have pt : ptl [r'] = ptl [r] := by
    show rtgs r' ++ [] = rtgs r ++ []
    rw [l1, l2]
  have db : DB G [r'] = DB G [r] := by
    show DB G [] + dbr (G r'.2.2.1) r'.v = DB G [] + dbr (G r.2.2.1) r.v
    rw [ev, e2]
  have jc : ∀ (ω h0 : Nat) (c0 : List Ent), JCX G ω h0 c0 [r'] = JCX G ω h0 c0 [r] := fun ω h0 c0 => by
    show (h0, 0 + jlv r'.v, jty r'.v (0 + jlv r'.v) 0, jen G ω r' h0 0 ++ c0) = (h0, 0 + jlv r.v, jty r.v (0 + jlv r.v) 0, jen G ω r h0 0 ++ c0)
    rw [j1, j2, ev]
  have nocol : ∀ j : Nat, col j = none := fun j => by
    cases hc : col j with
    | none => rfl
    | some x =>
      obtain ⟨g, k⟩ := x
      obtain ⟨-, w, hw, ⟨go, -⟩, -⟩ := jsi.2.1 j g k hc
      rw [List.mem_singleton.mp hw] at go
      exact absurd go g1
  have nv : ∀ v : Int32, ¬ v = 300 → ¬ r'.v = v := fun v hv z => hv (z.symm.trans v0')
  have nvr : ∀ v : Int32, ¬ v = 300 → ¬ r.v = v := fun v hv z => hv (z.symm.trans v0)
  refine ⟨k1, ⟨k2.1, (k2.2.c0 (by rw [v0]; decide) (NK.eq rfl rfl rfl rfl)).p0 (by rw [v0']; decide) (NK.eq rfl rfl rfl rfl)⟩, k3, Ψ, G, col, YJ, SAX.mo (fun k z => (nx (P := fun w => isTyv w ∧ (k : Int) = (w.2.1 66).toInt) (fun y => t2 y.1) z).elim) (fun k z => (nx (P := fun w => isTyv w ∧ (k : Int) = (w.2.1 72).toInt) (fun y => t2 y.1) z).elim) sax, ⟨fun k p => pin.1 k (pe k s2 p), fun k z => (nx (P := fun w => w.v = 218 ∧ (k : Int) = (w.2.1 67).toInt) (fun y => n2 y.1) z).elim, fun k z => (nx (P := fun w => isTyv w ∧ (k : Int) = (w.2.1 66).toInt) (fun y => t2 y.1) z).elim, fun k z => (nx (P := fun w => isTyv w ∧ (k : Int) = (w.2.1 72).toInt) (fun y => t2 y.1) z).elim⟩, ?_, ⟨⟨fun q hq go => absurd go (mem (P := fun w => ¬ isGo w.v) hq g2), fun j g k hc => absurd hc (by rw [nocol j]; exact fun z => by cases z), fun q hq k p => absurd p (mem (P := fun w => ¬ rsite w k) hq (s2 k)), ?_⟩, by rw [db]; exact kD, fun q hq x hx => absurd hx (mem (P := fun w => ¬ rhd w x) hq (d2 x)), fun q hq => ?_, fun q hq => ?_⟩, ?_⟩
  · unfold TGI at tgi ⊢
    rw [pt]
    exact tgi
  · exact ⟨fun k p => absurd p (s2 k), True.intro⟩
  · rw [List.mem_singleton.mp hq]
    exact ⟨fun z => absurd z n2, fun z => absurd z (nv _ (by decide)), fun z => absurd z (nv _ (by decide)), fun z => absurd z n2, fun z => absurd z t2, fun z => z.elim (fun z => absurd z (nv _ (by decide))) (fun z => absurd z (nv _ (by decide)))⟩
  · rw [List.mem_singleton.mp hq]
    exact ⟨fun z => absurd z n2, fun z => absurd z t2, nv _ (by decide)⟩
  intro FC SF nm X h0 ω c0 psi ng0 hc0 hh0 hω
  obtain ⟨⟨ng, hc, hh, dp⟩, mn⟩ := main FC SF nm X h0 ω c0 psi ng0 hc0 hh0 hω
  rw [jc]
  have nty : ¬ isTy r'.v := t2
  refine ⟨⟨ng, hc, hh, ⟨⟨fun z => absurd z g2, fun z => ?_, fun z => absurd z nty, fun z => absurd z (nv _ (by decide))⟩, True.intro⟩⟩, fun fc fg hA tyc jr cur => ?_⟩
  · unfold dfr at z
    rw [v0', if_neg (by decide)] at z
    exact absurd z (by decide)
  · have fc' : FGD [r] B S SF := fc.pl (fun y hy => by rw [← pt]; exact hy)
    have fg' : FGP [r] col b s U := fg.st (fun k p => pe k s2 p) (fun k z => (nx (P := fun w => w.v = 218 ∧ (k : Int) = (w.2.1 67).toInt) (fun y => n2 y.1) z).elim) (fun k z => (nx (P := fun w => isTyv w ∧ (k : Int) = (w.2.1 66).toInt) (fun y => t2 y.1) z).elim) (fun k z => (nx (P := fun w => isTyv w ∧ (k : Int) = (w.2.1 72).toInt) (fun y => t2 y.1) z).elim) (fun k z => (nx (P := fun w => (w.v = 218 ∨ w.v = 995) ∧ (k : Int) = (w.2.1 66).toInt) (fun y => m2 y.1) z).elim)
    have jr' : JRS FC SF U nm X G col YJ ω h0 c0 [r] := ⟨⟨fun z => absurd z (nvr _ (by decide)), fun z => absurd z (nvr _ (by decide)), fun z => absurd z (nvr _ (by decide)), fun z => absurd z (nvr _ (by decide)), fun z => absurd z (nvr _ (by decide)), fun z => absurd z (nvr _ (by decide)), fun z => absurd z (nvr _ (by decide)), fun z => absurd z t1, fun z => absurd z g1⟩, True.intro⟩
    have y := mn fc' fg' hA tyc jr' cur
    exact ⟨y.1, ⟨fun z => absurd z (nv _ (by decide)), fun z => absurd z (nv _ (by decide)), fun z => absurd z (nv _ (by decide)), fun z => absurd z (nv _ (by decide)), fun z => absurd z (nv _ (by decide))⟩, True.intro⟩
end
theorem NEW.mj {d : Int32} {B : CS} {b : RS} {t0 : Nat} {c : CEL} {L : List CEL} {R : CS} {u : RS} {J J' : List RVW → CS → RS → Prop} (h : NEW d B b t0 c L R u J) (f : ∀ (V : List RVW) (R : CS) (u : RS), J V R u → J' V R u) : NEW d B b t0 c L R u J' := by
  obtain ⟨c1, h1, h2, h3, h4⟩ := h
  exact ⟨c1, h1, h2, h3, f _ _ _ h4⟩
theorem OUTS.mj {N : Nat} {d : Int32} {B : CS} {b : RS} {t0 T : Nat} {c : CEL} {L : List CEL} {x : Int} {R : CS} {U : RS} {J J' : List RVW → CS → RS → Prop} (h : OUTS N d B b t0 T c L x R U J) (f : ∀ (V : List RVW) (R : CS) (u : RS), J V R u → J' V R u) : OUTS N d B b t0 T c L x R U J' := by
  rcases h with z | z | ⟨m, u, g, z⟩ | ⟨m, u, g, z, j⟩
  · exact Or.inl z
  · exact Or.inr (Or.inl z)
  · exact Or.inr (Or.inr (Or.inl ⟨m, u, g, z.mj f⟩))
  · exact Or.inr (Or.inr (Or.inr ⟨m, u, g, z, f _ _ _ j⟩))
section
variable {A : JBA} {U : RS} {B : CS} {b u : RS} {r : RVW}
theorem v302 (v0 : r.v = 300 ∨ r.v = 302) : (∀ k : Nat, ¬ rsite r k) ∧ ¬ isTyv r ∧ ¬ isGo r.v ∧ (∀ x : Int32, ¬ rhd r x) ∧ rtgs r = [] ∧ (∀ (G : GHT) (ω h l : Nat), jen G ω r h l = []) ∧ ∀ v : Int32, ¬ (v = 300 ∨ v = 302) → ¬ r.v = v := by
  refine ⟨fun k h => ?_, ?_, ?_, fun x h => ?_, ?_, fun G ω h l => ?_, fun v hv z => hv (by rw [← z]; exact v0)⟩
  · unfold rsite at h
    rcases v0 with v0 | v0 <;> rw [v0] at h <;> rcases h with ⟨h, -⟩ | ⟨h, -⟩ | ⟨h, -⟩ | ⟨h, -⟩ <;> exact absurd h (by decide)
  · unfold isTyv isTy
    rcases v0 with v0 | v0 <;> rw [v0] <;> decide
  · unfold isGo
    rcases v0 with v0 | v0 <;> rw [v0] <;> decide
  · unfold rhd at h
    rcases v0 with v0 | v0 <;> rw [v0] at h <;> rcases h with ⟨h, -⟩ | ⟨h, -⟩ | ⟨h, -⟩ <;> exact absurd h (by decide)
  · unfold rtgs
    rcases v0 with v0 | v0 <;> rw [v0, if_neg (by decide), if_neg (by decide), if_neg (by decide), if_neg (by decide), if_neg (by decide)]
  · unfold jen
    rcases v0 with v0 | v0 <;> rw [v0, if_neg (by decide), if_neg (by decide), if_neg (by decide), if_neg (by decide), if_neg (by decide)]
/-- the rows' code where the base's row alone stands -/
theorem JRW.ini (v0 : r.v = 300 ∨ r.v = 302) (i36 : B.i 36 = 1) (du : D52 b u) (e52 : u.i 52 = b.i 52) (nv : NMV b u) (l11 : (b.i 11).toInt + 1 ≤ (u.i 11).toInt) (l19 : (b.i 19).toInt ≤ (u.i 19).toInt) : JRW A U B b [r] B u := by
  intro crB
  obtain ⟨s2, t2, g2, d2, l2, j2, nv2⟩ := v302 v0
  have nx : ∀ {P : RVW → Prop} {q : RVW}, ¬ P q → (∃ w ∈ [q], P w) → False := fun hn ⟨w, hw, p⟩ => hn (by rw [← List.mem_singleton.mp hw]; exact p)
  have mem : ∀ {P : RVW → Prop} {q : RVW}, q ∈ [r] → P r → P q := fun hq p => by rw [List.mem_singleton.mp hq]; exact p
  have pt : ptl [r] = [] := by
    show rtgs r ++ [] = []
    rw [l2]
    rfl
  obtain ⟨G0, -⟩ : ∃ G0 : GHT, ∀ n : Nat, G0 n = (0, 0, []) := ⟨fun _ => (0, 0, []), fun _ => rfl⟩
  have db : DB G0 [r] = 0 := by
    show (0 : Int) + dbr (G0 r.2.2.1) r.v = 0
    unfold dbr
    rcases v0 with z | z <;> rw [z, if_neg (by decide), if_neg (by decide)] <;> rfl
  have jl : jlv r.v = 0 := by
    unfold jlv
    rcases v0 with z | z <;> rw [z, if_neg (by decide), if_neg (by decide), if_neg (by decide), if_neg (by decide)]
  have kd : KD2 (b.i 20).toInt b u := (KD2.rf (b.i 20).toInt b).d du
  have slu : SLO b → SLO u := fun q => by
    unfold SLO at q ⊢
    rw [du.1.2.2.2.2, du.1.1]
    exact q
  refine ⟨⟨0, Or.inl rfl, KD1.rf B⟩, ⟨CT7.rf _ _ B, ⟨fun _ _ _ => ⟨rfl, rfl⟩, by rw [show sl32 [r] = 0 + d32 r.v from rfl, d32.no (by rcases v0 with z | z <;> rw [z] <;> decide), e52, Int32.add_zero, Int32.add_zero]⟩⟩, kd, GPS.tt, G0, fun _ => none, fun _ => [], fun sl => ⟨⟨slu sl, fun k z => (nx (P := fun w => isTyv w ∧ (k : Int) = (w.2.1 72).toInt) (fun y => t2 y.1) z).elim⟩, fun _ => True, fun _ _ => False, ⟨fun _ _ z => z.elim, fun _ _ _ _ z => z.elim⟩, fun _ _ _ => True.intro⟩, ⟨fun k p => p.elim (fun z => absurd rfl z) (fun z => (nx (P := fun w => rsite w k) (s2 k) z).elim), fun k z => (nx (P := fun w => w.v = 218 ∧ (k : Int) = (w.2.1 67).toInt) (fun y => nv2 218 (by decide) y.1) z).elim, fun k z => (nx (P := fun w => isTyv w ∧ (k : Int) = (w.2.1 66).toInt) (fun y => t2 y.1) z).elim, fun k z => (nx (P := fun w => isTyv w ∧ (k : Int) = (w.2.1 72).toInt) (fun y => t2 y.1) z).elim⟩, ⟨by rw [pt]; exact List.nodup_nil, fun x hx => by rw [pt] at hx; exact absurd hx List.not_mem_nil⟩, ⟨⟨fun q hq go => absurd go (mem (P := fun w => ¬ isGo w.v) hq g2), fun j g k hc => (by cases hc), fun q hq k p => rfl, ⟨fun k p => absurd p (s2 k), True.intro⟩⟩, ⟨0, Or.inl rfl, by rw [db]; exact KD1.rf B⟩, fun q hq x hx => absurd hx (mem (P := fun w => ¬ rhd w x) hq (d2 x)), fun q hq => ?_, fun q hq => ?_⟩, ?_⟩
  · rw [List.mem_singleton.mp hq]
    exact ⟨fun z => absurd z (nv2 _ (by decide)), fun z => absurd z (nv2 _ (by decide)), fun z => absurd z (nv2 _ (by decide)), fun z => absurd z (nv2 _ (by decide)), fun z => absurd z t2, fun z => z.elim (fun z => absurd z (nv2 _ (by decide))) (fun z => absurd z (nv2 _ (by decide)))⟩
  · rw [List.mem_singleton.mp hq]
    exact ⟨fun z => absurd z (nv2 _ (by decide)), fun z => absurd z t2, nv2 _ (by decide)⟩
  intro FC SF nm X h0 ω c0 psi ng0 hc0 hh0 hω
  have jc : JCX G0 ω h0 c0 [r] = (h0, 0, jty r.v 0 0, c0) := by
    show (h0, 0 + jlv r.v, jty r.v (0 + jlv r.v) 0, jen G0 ω r h0 0 ++ c0) = _
    rw [j2, jl]
    rfl
  have nty : ¬ isTy r.v := t2
  rw [jc]
  have pR : pcR u = pcR b := by
    unfold pcR
    rw [du.1.1]
  refine ⟨⟨⟨fun k hk => ?_, ng0.2.1, by rw [e52]; exact ng0.2.2.1, Int.le_trans ng0.2.2.2.1 l19, ng0.2.2.2.2.d (D38.rf B) du⟩, hc0, Int.le_trans hh0 l11, ⟨⟨fun z => absurd z g2, fun z => ?_, fun z => absurd z nty, fun z => absurd z (nv2 _ (by decide))⟩, True.intro⟩⟩, fun fc fg hA tyc jr cur => ⟨?_, ⟨fun z => absurd z (nv2 _ (by decide)), fun z => absurd z (nv2 _ (by decide)), fun z => absurd z (nv2 _ (by decide)), fun z => absurd z (nv2 _ (by decide)), fun z => absurd z (nv2 _ (by decide))⟩, True.intro⟩⟩
  · have hk' : (k : Int) < (b.i 38).toInt := by rw [← nv.1]; exact hk
    rw [nv.2 k hk']
    exact ng0.1 k hk'
  · unfold dfr at z
    rcases v0 with y | y <;> rw [y, if_neg (by decide)] at z <;> exact absurd z (by decide)
  · have y := cur i36
    rw [pR] at y
    exact y
end
theorem gput_at {f : Nat → Int32} {n : Nat} {x v : Int32} (h : ib x n) : gPut f n x v x.toNatClampNeg = v := by
  unfold gPut
  rw [if_pos h]
  exact if_pos rfl
theorem gput_ne {f : Nat → Int32} {n : Nat} {x v : Int32} {j : Nat} (h : ¬ j = x.toNatClampNeg) : gPut f n x v j = f j := by
  unfold gPut
  by_cases c : ib x n
  · rw [if_pos c]
    exact if_neg h
  · rw [if_neg c]
end
section
/-! both readers: the LIST frame of the row on top -/
/-- only the frame T0 is other, and not its sort -/
def FT0 (T0 : Nat) (s u : RS) : Prop := u.i = s.i ∧ u.l = s.l ∧ (∀ k : Nat, k ≠ 74 → u.b k = s.b k) ∧ (∀ j : Nat, j ≠ T0 → u.b 74 j = s.b 74 j) ∧ (∀ k : Nat, ¬ (65 ≤ k ∧ k ≤ 73) → u.a k = s.a k) ∧ ∀ k j : Nat, j ≠ T0 → u.a k j = s.a k j
theorem RFR.f0 {S : CS} {s u : RS} {a t g w T0 : Nat} (h : FT0 T0 s u) (n1 : ¬ isOne (S.o a 0)) (n5 : ¬ S.o a 0 = 305) (hT : T0 + 1 = t + wid (S.o a 0)) (r : RFR S s a t g w) : RFR S u a t g w := by
  obtain ⟨hi, hl, hb, hb4, ha, hf⟩ := h
  have f64 := ha 64 (by decide)
  have f44 := ha 44 (by decide)
  obtain ⟨r0, r1, r2, r3, r4, r5, r6, r7, r8, r9, r10, r11, r12⟩ := r
  have no : ∀ v : Int32, isOne v → ¬ S.o a 0 = v := fun v hv z => n1 (by rw [z]; exact hv)
  refine ⟨fun z => by rw [f64]; exact r0 z, fun z => ?_, fun z => ?_, fun z => absurd z (no 303 (by unfold isOne; decide)), fun z => absurd z (no 203 (by unfold isOne; decide)), fun z => absurd z (no 204 (by unfold isOne; decide)), fun z => absurd z (no 205 (by unfold isOne; decide)), fun z => absurd z (no 206 (by unfold isOne; decide)), fun z => absurd z (no 207 (by unfold isOne; decide)), fun z => absurd z (no 304 (by unfold isOne; decide)), fun z => ?_, fun z => ?_, fun z => ?_⟩
  · have wd : wid (S.o a 0) = 2 := by rw [z]; rfl
    have y := r1 z
    unfold F301 FBL at *
    rw [f64, hf 65 t (by omega), hf 66 t (by omega)]
    exact y
  · have wd : wid (S.o a 0) = 2 := by rw [z]; rfl
    have y := r2 z
    unfold F302 at *
    rw [f64, hf 65 t (by omega), hf 71 t (by omega)]
    exact y
  · have wd : wid (S.o a 0) = 3 := by rw [z]; rfl
    have y := r10 z
    unfold F212 F301 FBL at *
    rw [f64, hf 65 t (by omega), hf 65 (t + 1) (by omega), hf 66 (t + 1) (by omega)]
    exact y
  · have wd : wid (S.o a 0) = 2 := by rw [z]; rfl
    have y := r11 z
    unfold F218 at *
    rw [f64, f44, hf 72 t (by omega), hf 71 t (by omega), hf 68 t (by omega)]
    exact y
  · have wd : wid (S.o a 0) = 3 := by
      rcases z with k | k | k | k
      · rw [k]; rfl
      · rw [k]; rfl
      · exact absurd k n5
      · rw [k]; rfl
    have y := r12 z
    unfold FTR FTS F301 FBL at *
    rw [f64, hi, ha 57 (by decide), ha 58 (by decide), hf 65 t (by omega), hf 66 t (by omega), hf 67 t (by omega), hf 68 t (by omega), hf 71 t (by omega), hf 72 t (by omega), hf 65 (t + 1) (by omega), hf 66 (t + 1) (by omega)]
    exact y
set_option maxHeartbeats 2000000 in
theorem COR.f0 {d : Int32} {B : CS} {b : RS} {t0 T0 : Nat} {L : List CEL} {x : Int} {S : CS} {s u : RS} {c : CEL} (h : COR d B b t0 (c :: L) x S s) (tp : TOP S s c) (n1 : ¬ isOne (S.o c.2.1 0)) (n5 : ¬ S.o c.2.1 0 = 305) (hT0 : T0 + 1 = ceT c + wid (S.o c.2.1 0)) (hT : t0 ≤ T0) (ev : ENV d S u) (g : FT0 T0 s u) : COR d B b t0 (c :: L) x S u := by
  have hin0 := h.inl tp (T := ceT c + wid (S.o c.2.1 0)) rfl
  obtain ⟨h1, h2, h3, h4, h5, ⟨h6, h7, h8, h9⟩, ⟨h10, h11, h12, hsg⟩, h13, ⟨h14, h15, h16⟩, h17, ⟨h18, h19, h20, col, h21⟩⟩ := h
  obtain ⟨gi, gl, gb, gb4, ga, gf⟩ := id g
  have w1 := wid1 (S.o c.2.1 0)
  obtain ⟨m', e', k', c1s, lkl, stl⟩ := id h2
  obtain ⟨s1, s2, s3, s4, s5, s6, s7⟩ := c1s
  have hinL : INL S s (ceT c) L := by
    cases L with
    | nil => exact fun y hy => absurd hy List.not_mem_nil
    | cons c0 L1 =>
      obtain ⟨lk, lw⟩ := lkl c0 rfl
      have z := STK.inl L1 c0 _ _ _ stl (by have := tp.1; have := lk.1; omega) (by have := tp.2.1; have := lk.2.2.1; omega) (by have := tp.2.2; have := lk.2.2.2.1; omega)
      rw [← lk.2.1] at z
      exact z
  have fr : FRB T0 s u := fun j hj => ⟨gf 64 j (by omega), gf 65 j (by omega), gf 66 j (by omega), gf 67 j (by omega), gf 68 j (by omega), gf 69 j (by omega), gf 70 j (by omega), gf 71 j (by omega), gf 72 j (by omega), gf 73 j (by omega), gb4 j (by omega)⟩
  have tb : TBR s u := by
    unfold TBR
    rw [gi, gb 39 (by decide), gb 45 (by decide), ga 40 (by decide), ga 41 (by decide), ga 44 (by decide), ga 46 (by decide), ga 47 (by decide), ga 50 (by decide), ga 51 (by decide), ga 48 (by decide), ga 49 (by decide), ga 57 (by decide), ga 58 (by decide), ga 60 (by decide), ga 61 (by decide), ga 62 (by decide), ga 30 (by decide), ga 34 (by decide), ga 37 (by decide), ga 25 (by decide), ga 27 (by decide), ga 28 (by decide)]
    exact ⟨fun _ _ => ⟨rfl, rfl, rfl⟩, fun _ _ => ⟨rfl, rfl, rfl, rfl, rfl, rfl, rfl, rfl⟩, fun _ _ => ⟨rfl, rfl⟩, ⟨Int.le_refl _, fun j k1 k2 => by omega⟩, fun _ _ => ⟨rfl, rfl, rfl⟩, Int.le_refl _, fun _ _ => rfl, Int.le_refl _, fun _ _ => ⟨rfl, rfl⟩, Int.le_refl _, fun _ _ => ⟨rfl, rfl, rfl⟩⟩
  have cd : CDK (s.i 20).toInt s u := ⟨by rw [gi]; exact Int.le_refl _, fun j _ => by rw [ga 22 (by decide)]⟩
  have bm : m' ≤ (S.i 22).toInt ∧ e' ≤ (s.i 24).toInt ∧ k' ≤ (s.i 33).toInt := by
    refine ⟨?_, ?_, ?_⟩
    · by_cases z : S.o c.2.1 0 = 218
      · obtain ⟨em, -, -, M, y1, -⟩ := s5 z
        exact y1.2.1.1
      · rw [(s4 z).1]
        exact Int.le_refl _
    · by_cases z : S.o c.2.1 0 = 218
      · exact (s5 z).2.1
      · rw [(s4 z).2]
        exact Int.le_refl _
    · by_cases z : isTy (S.o c.2.1 0)
      · exact (s7 z).1
      · rw [s6 z]
        exact Int.le_refl _
  have stL : STK S u L m' e' k' := STK.mv (CKZ.rf S) (fr.mo (by omega)) tb cd L _ _ _ stl hinL bm.1 bm.2.1 bm.2.2
  -- the frames that rows look at
  have ne : ∀ y ∈ c :: L, (isTy (S.o y.2.1 0) ∨ S.o y.2.1 0 = 218) → ¬ ceT y = T0 := fun y hy t z => by
    rcases List.mem_cons.mp hy with w | hy2
    · rw [w] at t z
      have wd : 2 ≤ wid (S.o c.2.1 0) := by
        rcases t with (k | k | k | k) | k
        · rw [k]; decide
        · rw [k]; decide
        · exact absurd k n5
        · rw [k]; decide
        · rw [k]; decide
      omega
    · have a := (hinL y hy2).2.2.1
      have w := wid1 (S.o y.2.1 0)
      omega
  have cst : CST S u c (S.i 22).toInt (u.i 24).toInt (u.i 33).toInt m' e' k' := by
    rw [gi]
    refine ⟨s1, s2, s3.f0 g n1 n5 hT0, s4, fun z => ?_, s6, fun z => ?_⟩
    · obtain ⟨x1, x2, x3, M, y1, y2, y3, y4⟩ := s5 z
      have nt := ne c List.mem_cons_self (Or.inr z)
      rw [gf 66 _ nt, ga 22 (by decide), gi]
      refine ⟨x1, x2, x3, M, ?_, chn.up (by rw [gi]; exact Int.le_refl _) (fun j _ => by rw [ga 27 (by decide)]) M _ y2, ?_, y4⟩
      · unfold CSM at *
        rw [ga 28 (by decide), ga 25 (by decide)]
        exact y1
      · unfold FQL at *
        rw [gf 67 _ nt]
        exact y3
    · obtain ⟨x1, M, y1, y2, y3, y4⟩ := s7 z
      have nt := ne c List.mem_cons_self (Or.inl z)
      rw [gf 66 _ nt, ga 30 (by decide), gf 72 _ nt]
      refine ⟨x1, M, kch.eq (by rw [gi]) (ga 37 (by decide)) y1, ?_, y3, y4⟩
      unfold KMK at *
      rw [ga 34 (by decide)]
      exact y2
  have st : STK S u (c :: L) (S.i 22).toInt (u.i 24).toInt (u.i 33).toInt := ⟨m', e', k', cst, fun c0 hc0 => by
    obtain ⟨z1, z2⟩ := lkl c0 hc0
    refine ⟨z1, z2.mv rfl (fr.mo (t' := ceT c) (by omega)) ?_⟩
    rw [z1.2.1]
    exact Nat.le_refl _, stL⟩
  have jq : JMQ S u (c :: L) (b.i 59).toInt (b.i 29).toInt := by
    have f50 := ga 50 (by decide)
    have f51 := ga 51 (by decide)
    have f60 := ga 60 (by decide)
    have f61 := ga 61 (by decide)
    have f62 := ga 62 (by decide)
    have f66 : ∀ y ∈ c :: L, isTy (S.o y.2.1 0) → u.a 66 (ceT y) = s.a 66 (ceT y) := fun y hy t => gf 66 _ (ne y hy (Or.inl t))
    unfold JMQ RCD PND SAF INR flg at *
    rw [gi, f50, f51, f60, f61, f62]
    obtain ⟨h1, h2, h3, h4, h5, h6, h7, h8⟩ := h3
    refine ⟨fun c hc g b hb i r => ?_, h2, fun k hk q hq t z => ?_, fun k k1 k2 => ?_, fun q hq t => ?_, fun q hq p hp t1 t2 l => ?_, h7, h8⟩
    · rcases h1 c hc g b hb i r with z | ⟨k, q, hq, t, l, ⟨p1, p2, p3, p4⟩, w⟩
      · exact Or.inl z
      · exact Or.inr ⟨k, q, hq, t, l, ⟨p1, p2, p3, by rw [f66 q hq t]; exact p4⟩, w⟩
    · rw [f66 q hq t] at z
      obtain ⟨c, hc, g, l, b, hb, ⟨p1, p2, p3, p4⟩, w⟩ := h3 k hk q hq t z
      exact ⟨c, hc, g, l, b, hb, ⟨p1, p2, p3, by rw [f66 q hq t]; exact p4⟩, w⟩
    · rcases h4 k k1 k2 with z | ⟨q, hq, t, z⟩
      · exact Or.inl z
      · exact Or.inr ⟨q, hq, t, by rw [f66 q hq t]; exact z⟩
    · rw [f66 q hq t]
      exact h5 q hq t
    · rw [f66 q hq t1, f66 p hp t2]
      exact h6 q hq p hp t1 t2 l
  have phu : phI u = phI s := by
    unfold phI
    rw [gi]
  refine ⟨ev, st, jq, LBC.mv (c :: L) x h4 (fun _ _ => rfl) (fun y _ _ => by rw [ga 46 (by decide)]), h5, ⟨h6.tr (fr.mo hT), h7.mv tb (by rw [gi]; exact h7.1) (by rw [gi]; exact h7.2.1) (by rw [gi]; exact h7.2.2.1), h8.tr (cd.wk h8.1), ⟨by rw [gi]; exact h9.1, by rw [gi]; exact h9.2.1, by rw [gi]; exact h9.2.2.1, (ga 1 (by decide)).trans h9.2.2.2.1, (ga 4 (by decide)).trans h9.2.2.2.2.1, (gb 9 (by decide)).trans h9.2.2.2.2.2⟩⟩, ⟨by rw [gi]; exact h10, by rw [phu]; exact h11, by rw [gi]; exact h12, by rw [gi]; exact hsg⟩, ⟨h13.1, h13.2.1, h13.2.2.1, h13.2.2.2.1, fun y hy => ⟨fun t z => ?_, fun t z => ?_⟩⟩, ⟨by rw [gi]; exact h14, by rw [gi]; exact h15, by rw [gi]; exact h16⟩, ?_, h18, h19, h20, col, ?_⟩
  · rw [gf 72 _ (ne y hy (Or.inl t))] at z ⊢
    exact (h13.2.2.2.2 y hy).1 t z
  · rw [gf 67 _ (ne y hy (Or.inr t))] at z ⊢
    exact (h13.2.2.2.2 y hy).2 t z
  · unfold IAR at *
    rw [gi, ga 44 (by decide)]
    exact h17
  · obtain ⟨g1, g2, g3, g4, g5, g6, g7⟩ := h21
    have f66 : ∀ y ∈ c :: L, S.o y.2.1 0 = 218 → u.a 66 (ceT y) = s.a 66 (ceT y) := fun y hy t => gf 66 _ (ne y hy (Or.inr t))
    refine ⟨fun k x e => by rw [gi]; exact g1 k x e, fun k x e => by rw [ga 22 (by decide)]; exact g2 k x e, fun y hy t => by rw [ga 48 (by decide), ga 49 (by decide)]; exact g3 y hy t, g4, fun y hy t => by rw [f66 y hy t, gi]; exact g5 y hy t, fun y hy z hz t1 t2 l => by rw [f66 y hy t1, f66 z hz t2]; exact g6 y hy z hz t1 t2 l, fun y hy k p => ?_⟩
    have p' : PLF S s y k := by
      rcases List.mem_cons.mp hy with w | hy2
      · exfalso
        rw [w] at p
        have no : ∀ v : Int32, isOne v → ¬ S.o c.2.1 0 = v := fun v hv z => n1 (by rw [z]; exact hv)
        unfold PLF at p
        rcases p with ⟨z | z, -⟩ | ⟨z, -⟩ | ⟨z | z, -⟩
        · exact no 203 (by unfold isOne; decide) z
        · exact no 304 (by unfold isOne; decide) z
        · exact no 204 (by unfold isOne; decide) z
        · exact no 205 (by unfold isOne; decide) z
        · exact no 207 (by unfold isOne; decide) z
      · have a := (hinL y hy2).2.2.1
        have w := wid1 (S.o y.2.1 0)
        have fy := fr (ceT y) (by omega)
        unfold PLF at *
        rw [fy.2.2.1, fy.2.2.2.1, fy.2.2.2.2.1] at p
        exact p
    obtain ⟨z1, z2, z3, z4⟩ := g7 y hy k p'
    exact ⟨z1, by rw [gi]; exact z2, z3, fun w hw t => by rw [f66 w hw t]; exact z4 w hw t⟩
end
section
/-! both readers: a statement of the list on top -/
/-- u, but the frame T0 is that of s -/
def bkF (s u : RS) (T0 : Nat) : RS := (u.i, u.l, (fun k j => if (65 ≤ k ∧ k ≤ 73) ∧ j = T0 then s.a k j else u.a k j), (fun k j => if k = 74 ∧ j = T0 then s.b k j else u.b k j))
theorem bkF.n {s u : RS} {T0 : Nat} : (bkF s u T0).i = u.i ∧ (bkF s u T0).l = u.l ∧ (∀ k : Nat, k ≠ 74 → (bkF s u T0).b k = u.b k) ∧ (∀ k : Nat, ¬ (65 ≤ k ∧ k ≤ 73) → (bkF s u T0).a k = u.a k) ∧ (∀ k j : Nat, j ≠ T0 → (bkF s u T0).a k j = u.a k j) ∧ (∀ k : Nat, 65 ≤ k → k ≤ 73 → (bkF s u T0).a k T0 = s.a k T0) ∧ (∀ j : Nat, j ≠ T0 → (bkF s u T0).b 74 j = u.b 74 j) ∧ (bkF s u T0).b 74 T0 = s.b 74 T0 := by
  refine ⟨rfl, rfl, fun k hk => ?_, fun k hk => ?_, fun k j hj => ?_, fun k h1 h2 => ?_, fun j hj => ?_, ?_⟩
  · funext j
    exact if_neg (fun z => hk z.1)
  · funext j
    exact if_neg (fun z => hk z.1)
  · exact if_neg (fun z => hj z.2)
  · exact if_pos ⟨⟨h1, h2⟩, rfl⟩
  · exact if_neg (fun z => hj z.2)
  · exact if_pos ⟨rfl, rfl⟩
set_option maxHeartbeats 2000000 in
theorem COR.lst {d : Int32} {B : CS} {b : RS} {t0 T0 : Nat} {L : List CEL} {x : Int} {S S' : CS} {s V : RS} {c : CEL} (h : COR d B b t0 (c :: L) x S s) (tp : TOP S s c) (n1 : ¬ isOne (S.o c.2.1 0)) (n5 : ¬ S.o c.2.1 0 = 305) (hT0 : T0 + 1 = ceT c + wid (S.o c.2.1 0)) (hT : t0 ≤ T0) (hS' : S' = S ∨ S' = CS.setI S 37 (S.i 44)) (ev : ENV d S' V) (f : FRB T0 s V) (v64 : V.a 64 T0 = s.a 64 T0) (tk : TBK s V) (ph : phI V = phI s) (i11 : V.i 11 = s.i 11) (i17 : V.i 17 = s.i 17) (i19 : V.i 19 = s.i 19) : COR d B b t0 (c :: L) x S' V ∧ S'.o = S.o ∧ S'.i 53 = S.i 53 := by
  obtain ⟨wi, wl, wb, wa, wf, wT, wb4, wbT⟩ := bkF.n (s := s) (u := V) (T0 := T0)
  obtain ⟨W, hW⟩ : ∃ y, y = bkF s V T0 := ⟨_, rfl⟩
  rw [← hW] at wi wl wb wa wf wT wb4 wbT
  clear hW
  have es : CKZ S S' ∧ (S'.i 38 = S.i 38 ∧ S'.i 53 = S.i 53 ∧ S'.i 56 = S.i 56) ∧ RTE S S' ∧ S'.o = S.o := by
    rcases hS' with z | z
    · rw [z]
      exact ⟨CKZ.rf S, ⟨rfl, rfl, rfl⟩, ⟨Int.le_refl _, Int.le_refl _, Int.le_refl _⟩, rfl⟩
    · rw [z]
      exact ⟨⟨rfl, fun _ _ => rfl, fun _ _ _ _ => ⟨rfl, rfl⟩, fun _ _ => rfl, Int.le_refl _, Int.le_refl _, fun _ _ => rfl, fun k h1 h2 => absurd (show (k : Int) < (S.i 55).toInt from h2) (by omega)⟩, ⟨rfl, rfl, rfl⟩, ⟨Int.le_refl _, Int.le_refl _, Int.le_refl _⟩, rfl⟩
  obtain ⟨ck, e3, rt, eo⟩ := es
  have phW : phI W = phI V := by
    unfold phI
    rw [wi]
  have evW : ENV d S' W := ev.kq (by rw [wi]) (by rw [wi]) (by rw [wi]) (by rw [wi]) (by rw [wi]) (by rw [wi]) (by rw [wi]) (wa 1 (by decide)) (wa 4 (by decide)) (wa 41 (by decide)) (wb 9 (by decide)) (wb 39 (by decide)) (by rw [wi]) (by rw [wi]) (by rw [wi]) (by rw [wi]) (by rw [wi]) (by rw [wi]) (by rw [wi]) wl ⟨by rw [wi]; exact ev.2.2.2.2.2.2.1, by rw [phW]; exact ev.2.2.2.2.2.2.2.1⟩ (ev.wp.of (by rw [wi]; exact Int.le_refl _) (by rw [wi]) (by rw [wi]) (by rw [wi]) (wa 58 (by decide)) (wa 62 (by decide)))
  have frW : FRB (T0 + 1) s W := fun j hj => by
    by_cases z : j = T0
    · rw [z]
      exact ⟨by rw [wa 64 (by decide)]; exact v64, wT 65 (by decide) (by decide), wT 66 (by decide) (by decide), wT 67 (by decide) (by decide), wT 68 (by decide) (by decide), wT 69 (by decide) (by decide), wT 70 (by decide) (by decide), wT 71 (by decide) (by decide), wT 72 (by decide) (by decide), wT 73 (by decide) (by decide), wbT⟩
    · obtain ⟨g0, g1, g2, g3, g4, g5, g6, g7, g8, g9, gb⟩ := f j (by omega)
      exact ⟨by rw [wf 64 j z]; exact g0, by rw [wf 65 j z]; exact g1, by rw [wf 66 j z]; exact g2, by rw [wf 67 j z]; exact g3, by rw [wf 68 j z]; exact g4, by rw [wf 69 j z]; exact g5, by rw [wf 70 j z]; exact g6, by rw [wf 71 j z]; exact g7, by rw [wf 72 j z]; exact g8, by rw [wf 73 j z]; exact g9, by rw [wb4 j z]; exact gb⟩
  have tkW : TBK V W := by
    refine ⟨⟨⟨by rw [wi], by rw [wi], by rw [wi], by rw [wi], by rw [wi], by rw [wi], by rw [wi], wa 1 (by decide), wa 4 (by decide), wb 9 (by decide)⟩, fun j _ => ⟨by rw [wb 39 (by decide)], by rw [wa 40 (by decide)], by rw [wa 41 (by decide)]⟩, fun j _ => ⟨by rw [wa 44 (by decide)], by rw [wb 45 (by decide)], by rw [wa 46 (by decide)], by rw [wa 47 (by decide)], by rw [wa 50 (by decide)], by rw [wa 51 (by decide)], by rw [wa 48 (by decide)], by rw [wa 49 (by decide)]⟩, fun j _ => ⟨by rw [wa 57 (by decide)], by rw [wa 58 (by decide)]⟩, ⟨by rw [wi]; exact Int.le_refl _, fun j k1 k2 => by rw [wi] at k2; omega⟩, fun j _ => ⟨by rw [wa 60 (by decide)], by rw [wa 61 (by decide)], by rw [wa 62 (by decide)]⟩, by rw [wi]; exact Int.le_refl _, fun j _ => by rw [wa 30 (by decide)], by rw [wi]; exact Int.le_refl _, fun j _ => ⟨by rw [wa 34 (by decide)], by rw [wa 37 (by decide)]⟩, by rw [wi]; exact Int.le_refl _, fun j _ => ⟨by rw [wa 25 (by decide)], by rw [wa 27 (by decide)], by rw [wa 28 (by decide)]⟩⟩, by rw [wi]; exact Int.le_refl _, fun j _ => by rw [wa 22 (by decide)]⟩
  have tk2 := tk.tr tkW
  obtain ⟨t1, t2, t3, t4, t5, t6, t7, t8, t9, t10⟩ := id tk2.1.1
  have n8 := h.2.2.2.2.2.2.2.2.1.2.1
  have hin := h.inl tp (T := T0 + 1) (by omega)
  have cW : COR d B b t0 (c :: L) x S' W := h.mv hin (by omega) evW frW tk2.1.r tk2.2 ⟨t1, t2, t3, t5, t6, t7, t8, t9, t10⟩ ck e3 rt ⟨by rw [wi, i11]; exact Int.le_refl _, by rw [phW, ph]; exact Int.le_refl _, by rw [wi, i17]; exact Int.le_refl _, by rw [wi, i19]⟩ (by rw [t4, wi, i11]; exact n8) (by rw [t4]; exact Int.le_refl _)
  have tpW : TOP S' W c := ⟨by rw [e3.2.1]; exact tp.1, by rw [t5, eo]; exact tp.2.1, by rw [t7, eo]; exact tp.2.2⟩
  exact ⟨cW.f0 tpW (by rw [eo]; exact n1) (by rw [eo]; exact n5) (by rw [eo]; exact hT0) hT ev ⟨wi.symm, wl.symm, fun k hk => (wb k hk).symm, fun j hj => (wb4 j hj).symm, fun k hk => (wa k hk).symm, fun k j hj => (wf k j hj).symm⟩, eo, e3.2.1⟩
theorem COR.iL {d : Int32} {B : CS} {b : RS} {t0 : Nat} {L : List CEL} {x : Int} {S : CS} {s : RS} {c : CEL} (h : COR d B b t0 (c :: L) x S s) (tp : TOP S s c) : INL S s (ceT c) L := by
  obtain ⟨m', e', k', -, lkl, stl⟩ := id h.2.1
  cases L with
  | nil => exact fun y hy => absurd hy List.not_mem_nil
  | cons c0 L1 =>
    obtain ⟨lk, lw⟩ := lkl c0 rfl
    have z := STK.inl L1 c0 _ _ _ stl (by have := tp.1; have := lk.1; omega) (by have := tp.2.1; have := lk.2.2.1; omega) (by have := tp.2.2; have := lk.2.2.2.1; omega)
    rw [← lk.2.1] at z
    exact z
theorem vw_v {S : CS} {s : RS} {c : CEL} : (vw S s c).v = S.o c.2.1 0 := rfl
theorem vw_2 {S : CS} {s : RS} {c : CEL} : (vw S s c).2.2 = (c.1, ceG c) := rfl
theorem vw_p {S S' : CS} {s s' : RS} {c : CEL} : (vw S' s' c).2.2 = (vw S s c).2.2 := vw_2.trans vw_2.symm
theorem d37 {S : CS} {v : Int32} : D38 S (CS.setI S 37 v) ∧ (CS.setI S 37 v).i 38 = S.i 38 ∧ (CS.setI S 37 v).i 36 = S.i 36 ∧ (CS.setI S 37 v).i 43 = S.i 43 ∧ (CS.setI S 37 v).a 48 = S.a 48 ∧ (CS.setI S 37 v).a 49 = S.a 49 := ⟨⟨⟨rfl, rfl, rfl, rfl, rfl⟩, rfl, rfl, rfl, rfl⟩, rfl, rfl, rfl, rfl, rfl⟩
theorem lst_j1 {B : CS} {b : RS} {V0 : List RVW} {S S' : CS} {s V U : RS} {Aj : JBA} (hS' : S' = S ∨ S' = CS.setI S 37 (S.i 44)) (vql : QLS s V) (jw : JRW Aj U B b V0 S s) : JRW Aj U B b V0 S' V := by
  have sS : D38 S S' ∧ S'.i 38 = S.i 38 ∧ S'.i 36 = S.i 36 ∧ S'.i 43 = S.i 43 ∧ S'.a 48 = S.a 48 ∧ S'.a 49 = S.a 49 := by
    rcases hS' with z | z
    · rw [z]
      exact ⟨D38.rf S, rfl, rfl, rfl, rfl, rfl⟩
    · rw [z]
      exact d37
  obtain ⟨ei, ea⟩ := vql
  exact jw.mv sS.1 sS.2.1 sS.2.2.1 sS.2.2.2.1 sS.2.2.2.2.1 sS.2.2.2.2.2 ⟨⟨ei 20 (by decide) (by decide), ei 24 (by decide) (by decide), ei 29 (by decide) (by decide), ei 33 (by decide) (by decide), ei 42 (by decide) (by decide)⟩, ea 21 (by decide), ea 22 (by decide), ea 23 (by decide), ea 25 (by decide), ea 26 (by decide), ea 27 (by decide), ea 28 (by decide), ea 30 (by decide), ea 31 (by decide), ea 32 (by decide), ea 34 (by decide), ea 35 (by decide), ea 36 (by decide), ea 37 (by decide)⟩ ⟨ei 38 (by decide) (by decide), ei 52 (by decide) (by decide), ei 11 (by decide) (by decide), ei 19 (by decide) (by decide), ei 43 (by decide) (by decide), ei 59 (by decide) (by decide)⟩ ⟨ea 40 (by decide), ea 47 (by decide), ea 48 (by decide), ea 49 (by decide), ea 50 (by decide), ea 51 (by decide), ea 60 (by decide), ea 61 (by decide), ea 62 (by decide)⟩
theorem lst_jw {d : Int32} {B : CS} {b : RS} {t0 T0 : Nat} {L : List CEL} {x : Int} {S S' : CS} {s V U : RS} {c : CEL} {Aj : JBA} (hC : COR d B b t0 (c :: L) x S s) (tp : TOP S s c) (bz : BAZ B b (c :: L)) (no1 : ¬ isOne (S.o c.2.1 0)) (n305 : ¬ S.o c.2.1 0 = 305) (hT0 : T0 + 1 = ceT c + wid (S.o c.2.1 0)) (hS' : S' = S ∨ S' = CS.setI S 37 (S.i 44)) (eo : S'.o = S.o) (frV : FRB T0 s V) (vql : QLS s V) (jw : JRW Aj U B b (vws S s (c :: L)) S s) : JRW Aj U B b (vws S' V (c :: L)) S' V := by
  have j1 : JRW Aj U B b (vws S s (c :: L)) S' V := lst_j1 hS' vql jw
  obtain ⟨ei, ea⟩ := vql
  by_cases w2 : 2 ≤ wid (S.o c.2.1 0)
  · have veq : vws S' V (c :: L) = vws S s (c :: L) := vws.eq (T := T0) (fun j _ => by rw [ea 40 (by decide)]) (c :: L) (fun y hy => hC.o3 y hy) (fun y _ => by rw [eo]) frV (fun y hy => by
      rcases List.mem_cons.mp hy with z | z
      · rw [z]
        omega
      · have z1 := (hC.iL tp y z).2.2.1
        have z2 := wid1 (S.o y.2.1 0)
        omega)
    rw [veq]
    exact j1
  · have c3 : S.o c.2.1 0 = 300 ∧ L = [] := by
      cases L with
      | nil =>
        obtain ⟨-, -, -, -, -, ⟨h7, h8, -⟩, h9⟩ := id bz
        have ez := (hC.2.2.2.2.1.2.1 c.1 c.2.1 (by omega) h8).1
        rcases h9 with ⟨-, z⟩ | ⟨-, -, z⟩
        · rw [← ez] at z
          have wd : wid (S.o c.2.1 0) = 2 := by rw [z]; rfl
          omega
        · rw [← ez] at z
          exact ⟨z, rfl⟩
      | cons c2 L2 =>
        exfalso
        obtain ⟨m', e', k', g1, g2, g3⟩ := id hC.2.1
        have ks := (g2 c2 rfl).1.2.2.2.2.2.2.2.2
        rcases ks with y | (y | y | y | y) | y | y | y
        · exact no1 y
        · have wd : wid (S.o c.2.1 0) = 3 := by rw [y]; rfl
          omega
        · have wd : wid (S.o c.2.1 0) = 3 := by rw [y]; rfl
          omega
        · exact n305 y
        · have wd : wid (S.o c.2.1 0) = 3 := by rw [y]; rfl
          omega
        · have wd : wid (S.o c.2.1 0) = 2 := by rw [y]; rfl
          omega
        · have wd : wid (S.o c.2.1 0) = 2 := by rw [y]; rfl
          omega
        · have wd : wid (S.o c.2.1 0) = 3 := by rw [y]; rfl
          omega
    obtain ⟨c3, hL⟩ := c3
    rw [hL] at j1 ⊢
    exact JRW.r0 (r := vw S s c) (r' := vw S' V c) j1 (by
      show (fun k : Nat => if k = 5 then (0 : Int32) else S'.o c.2.1 k) = (fun k : Nat => if k = 5 then (0 : Int32) else S.o c.2.1 k)
      rw [eo]) vw_p (vw_v.trans c3)
theorem tn_list {N : Nat} (hN : 1000 ≤ N) {E1 : CS → Option (Unit × CS)} {E2 : CS → Option (Int32 × CS)} (hm1 : ∀ σ, Kf (CS.i σ 32) (E1 σ)) (hm2 : ∀ σ, Kf (CS.i σ 32) (E2 σ)) (hE : SXR N 18 E1) (hE2 : SXN N 22 E2) {d : Int32} {B : CS} {b : RS} {t0 T0 n : Nat} {L : List CEL} {x : Int} {S : CS} {s U : RS} {c : CEL} {R : Unit × CS} {Aj : JBA} (hY : YBA Aj U B b) (hC : COR d B b t0 (c :: L) x S s) (tp : TOP S s c) (hM : MLI c S s) (h36 : S.i 36 = 0 ∨ S.i 36 = 1) (bz : BAZ B b (c :: L)) (hT0 : T0 + 1 = ceT c + wid (S.o c.2.1 0)) (hT : t0 ≤ T0) (n125 : ¬ S.i 43 = 125) (n219 : ¬ S.i 43 = 219) (n220 : ¬ S.i 43 = 220) (n0 : ¬ S.i 43 = 0) (e : f_X7_statement N E1 E2 S 0 = some R) (g : f_X12_parse_10 N n s = some U) : OUTS N d B b t0 (T0 + 1) c L x R.2 U (JTR Aj U B b (c :: L) S s) := by
  obtain ⟨no1, n305, ts, h64, hmode, h65⟩ := hM
  have hv := hC.1
  have ix : ceT c + wid (S.o c.2.1 0) - 1 = T0 := by omega
  rw [ix] at h64 hmode
  have ts' : tpI s = (T0 : Int) := by
    rw [ts]
    omega
  have q125 : ¬ s.i 10 = 125 := fun z => n125 ((tk_is hv (a := 125) (b := 125) (Or.inl ⟨by decide, by decide⟩) (by decide)).mpr z)
  have q429 : ¬ s.i 10 = 429 := fun z => n219 ((tk_is hv (a := 219) (b := 429) (Or.inr ⟨by decide, by decide⟩) (by decide)).mpr z)
  have q430 : ¬ s.i 10 = 430 := fun z => n220 ((tk_is hv (a := 220) (b := 430) (Or.inr ⟨by decide, by decide⟩) (by decide)).mpr z)
  have q0 : ¬ s.i 10 = 0 := fun z => n0 ((tk_is hv (a := 0) (b := 0) (Or.inl ⟨by decide, by decide⟩) (by decide)).mpr z)
  obtain ⟨S', m, V, hS', e18, gV, evV, tV, v64, v65, v641, v651, frV, tkV, vph, v11, v17, v19, vql⟩ := y_list hN hv ts' h64 hmode h36 q125 q429 q430 q0 e g
  obtain ⟨hC', eo, e53⟩ := hC.lst tp no1 n305 hT0 hT hS' evV frV (v64.trans h64.symm) tkV vph v11 v17 v19
  have c0 : S'.o c.2.1 0 = S.o c.2.1 0 := by rw [eo]
  obtain ⟨t1, t2, t3, t4, t5, t6, t7, t8, t9, t10⟩ := tkV.1.1
  have tpV : TOP S' V c := ⟨by rw [e53]; exact tp.1, by rw [t5, c0]; exact tp.2.1, by rw [t7, c0]; exact tp.2.2⟩
  have lwV : LOW S' V c := by
    refine ⟨by rw [c0]; exact n305, fun z => ?_, fun _ => ?_, fun z => ?_⟩
    · rw [c0] at z
      have wd : wid (S.o c.2.1 0) = 2 := by rw [z]; rfl
      have e1 : T0 = ceT c + 1 := by omega
      refine ⟨by rw [(frV (ceT c) (by omega)).2.1]; exact (h65 z).1, ?_⟩
      rw [← e1]
      exact v64
    · rw [c0, ix]
      exact ⟨v65, v64⟩
    · rw [c0] at z
      rw [eo]
      exact (h65 (z.resolve_left no1)).2
  have t53 := tpV.1
  obtain ⟨r1, r2, r3, r4, r5⟩ := BAZ.all hC'.2.2.2.2.1 L c _ _ _ bz hC'.2.1 (by omega)
  have n1' : ¬ isOne (S'.o c.2.1 0) := by rw [c0]; exact no1
  refine OUTS.mj (st_any hN hm1 hm2 hE hE2 hY hC' ⟨tpV, lwV, by rw [c0]; exact hT0, tV, v641, v651⟩ (by omega) (fun z => absurd z n1') (fun z => absurd (show isOne (S'.o c.2.1 0) by rw [z]; unfold isOne; decide) n1') r1 r2 r3 (fun z => absurd z n1') (Or.inl rfl) e18 gV) (fun V' R' u' h ku jw => h (show KU3 U V from ⟨ku.1.trans (vql.1 3 (by decide) (by decide)).symm, ku.2⟩) (lst_jw hC tp bz no1 n305 hT0 hS' eo frV vql jw))
end
section
/-! both readers: what comes of a statement -/
/-- a statement is done: the row on top goes on -/
theorem OUTS.pop {N : Nat} {d : Int32} {B : CS} {b : RS} {t0 T : Nat} {c : CEL} {L : List CEL} {x : Int} {R : CS} {U : RS} {J : List RVW → CS → RS → Prop} (h : OUTS N d B b t0 T c L x R U J) : (¬ R.i 32 = 0 ∧ ¬ U.i 15 = 0) ∨ DMD d B R U ∨ (∃ (m : Nat) (u : RS), f_X12_parse_10 N m u = some U ∧ NEW d B b t0 c L R u J) ∨ ∃ (m : Nat) (u : RS), f_X12_parse_10 N m u = some U ∧ POPD d B b t0 c L R u ∧ J (vws R u (c :: L)) R u := by
  rcases h with z | z | z | ⟨m, u, g, ⟨⟨cR, tR, lR, tu, ⟨h75, h36⟩, hT⟩, hm⟩, hj⟩
  · exact Or.inl z
  · exact Or.inr (Or.inl z)
  · exact Or.inr (Or.inr (Or.inl z))
  · refine Or.inr (Or.inr (Or.inr ⟨m, u, g, ⟨?_, tR, MOD.rt lR ?_ h75 h36 hm⟩, hj⟩))
    · obtain ⟨h1, h2, h3, h4, h5, h6, h7, h8, h9, h10, h11⟩ := cR
      exact ⟨h1, h2, h3, LBC.any _ _ h4, h5, h6, h7, h8, h9, h10, h11⟩
    · rw [tu, hT]
      have := wid1 (R.o c.2.1 0)
      omega
/-- a one-body row's body begins -/
theorem tn_body {N : Nat} (hN : 1000 ≤ N) {E1 : CS → Option (Unit × CS)} {E2 : CS → Option (Int32 × CS)} (hm1 : ∀ σ, Kf (CS.i σ 32) (E1 σ)) (hm2 : ∀ σ, Kf (CS.i σ 32) (E2 σ)) (hE : SXR N 18 E1) (hE2 : SXN N 22 E2) {d : Int32} {B : CS} {b : RS} {t0 n : Nat} {L : List CEL} {x : Int} {S : CS} {s U : RS} {c1 c : CEL} {R : Unit × CS} {Aj : JBA} (hY : YBA Aj U B b) (hC : COR d B b t0 (c1 :: c :: L) (cod c1 S s) S s) (tp : TOP S s c1) (hM : MBO c1 S s) (bz : BAZ B b (c1 :: c :: L)) (hT : t0 ≤ ceT c1) (e : f_X7_bodyTurn N E1 E2 S c1.2.1 = some R) (g : f_X12_parse_10 N n s = some U) : OUTS N d B b t0 (ceT c1 + 1) c1 (c :: L) (cod c1 S s) R.2 U (JTR Aj U B b (c1 :: c :: L) S s) := by
  obtain ⟨one, o5, ts, h64, h65, h36, ⟨n410, n411⟩, hm⟩ := hM
  have hv := hC.1
  unfold f_X7_bodyTurn at e
  obtain ⟨-, e⟩ := hf_ite e
  rw [if_pos o5] at e
  have e1 : f_X7_statement N E1 E2 (CS.setO S c1.2.1 5 1) 1 = some R := ob_un e
  unfold f_X7_statement at e1
  have e2 : f_X7_statement_18 N E1 E2 (CS.setO S c1.2.1 5 1) 1 = some R := (if_neg (show ¬ (CS.setO S c1.2.1 5 1).i 36 = 0 from fun z => by
    have z' : S.i 36 = 0 := z
    rw [h36] at z'
    exact absurd z' (by decide))).symm.trans e1
  clear e e1
  have wd := wid.one one
  obtain ⟨W, hW⟩ : ∃ W, W = CS.setO S c1.2.1 5 1 := ⟨_, rfl⟩
  have Wi : W.i = S.i := by rw [hW]; rfl
  have Wa : W.a = S.a := by rw [hW]; rfl
  have Wr : W.r = S.r ∧ W.ol = S.ol := by rw [hW]; exact ⟨rfl, rfl⟩
  have Wo : ∀ a : Nat, a ≠ c1.2.1 → W.o a = S.o a := fun a ha => by rw [hW, so_ne ha]
  have Wk : ∀ k : Nat, k ≠ 5 → W.o c1.2.1 k = S.o c1.2.1 k := fun k hk => by rw [hW, so_nk hk]
  have W5 : W.o c1.2.1 5 = 1 := by rw [hW, so_at]
  have evW : ENV d W s := by rw [hW]; exact hv.so (by decide)
  have hWe := hW
  rw [← hW] at e2
  clear hW
  have adr := hC.adr
  have hb := hC.b53 tp bz
  have eko : ∀ k : Nat, k ≠ 5 → ∀ a : Nat, W.o a k = S.o a k := fun k k1 a => by
    by_cases z : a = c1.2.1
    · rw [z]
      exact Wk k k1
    · rw [Wo a z]
  have e0 := eko 0 (by decide)
  have e3 := eko 3 (by decide)
  have eoL : ∀ y ∈ c :: L, W.o y.2.1 = S.o y.2.1 := fun y hy => Wo y.2.1 (adr y hy)
  obtain ⟨h1, h2, h3, h4, h5, h6, ⟨h10, h11, h12, hsg⟩, h13, h14, h17, ⟨h18, h19, h20, col, h21⟩⟩ := hC
  have h2' := h2
  obtain ⟨m', e', k', c1s, lkl, stl⟩ := h2'
  obtain ⟨lk, lw⟩ := lkl c rfl
  obtain ⟨d1, d2⟩ := DSM.eq (c :: L) eoL
  have st : STK W s (c1 :: c :: L) (S.i 22).toInt (s.i 24).toInt (s.i 33).toInt := by
    refine STK.push (STK.eo (S := S) (R := W) Wr.1 (by rw [Wa]) (c :: L) _ _ _ (fun y hy => ⟨eoL y hy, by rw [Wr.2]⟩) stl) ?_ ?_ ?_
    · unfold CST RFR CSM at c1s ⊢
      rw [Wr.1, Wr.2, Wa, Wk 0 (by decide), Wk 3 (by decide), Wk 6 (by decide), Wk 7 (by decide), Wk 8 (by decide), Wk 11 (by decide), Wk 12 (by decide), Wk 13 (by decide)]
      exact c1s
    · unfold LNK at *
      rw [Wk 0 (by decide), Wk 1 (by decide), Wk 3 (by decide), Wk 14 (by decide), eoL c List.mem_cons_self]
      exact lk
    · unfold LOW at *
      rw [eoL c List.mem_cons_self]
      exact lw
  have jq : JMQ W s (c1 :: c :: L) (b.i 59).toInt (b.i 29).toInt := h3.eqv e0 (eko 1 (by decide)) (eko 14 (by decide)) (eko 15 (by decide)) (by rw [Wi]) (by rw [Wi]) (by rw [Wa]) rfl rfl rfl rfl rfl rfl (fun _ _ => rfl)
  have pd : PDM W (c1 :: c :: L) = PDM S (c1 :: c :: L) := by
    have z1 : PDM W (c1 :: c :: L) = dbt (W.o c1.2.1 0) + PDM W (c :: L) := rfl
    have z2 : PDM S (c1 :: c :: L) = dbt (S.o c1.2.1 0) + PDM S (c :: L) := rfl
    rw [z1, z2, e0, d2]
  have ds : DSM W (c1 :: c :: L) = DSM S (c1 :: c :: L) := by
    have z1 : DSM W (c1 :: c :: L) = (nDp (W.o c1.2.1 0) : Int) + DSM W (c :: L) := rfl
    have z2 : DSM S (c1 :: c :: L) = (nDp (S.o c1.2.1 0) : Int) + DSM S (c :: L) := rfl
    rw [z1, z2, e0, d1]
  have cW : COR d B b t0 (c1 :: c :: L) (cod c1 S s) W s := by
    refine ⟨evW, by rw [Wi]; exact st, jq, ?_, ?_, h6, ⟨h10, by rw [pd]; exact h11, h12, by rw [SSM.eq (c1 :: c :: L) (fun y _ => e0 y.2.1)]; exact hsg⟩, ⟨by rw [Wi, ds]; exact h13.1, fun y hy => by rw [e3, Wi]; exact h13.2.1 y hy, fun y hy z hz l => by rw [e3, e3]; exact h13.2.2.1 y hy z hz l, ?_, fun y hy => by rw [e0]; exact h13.2.2.2.2 y hy⟩, by rw [Wi]; exact h14, ?_, h18, h19, h20, col, ?_⟩
    · unfold LBC at h4 ⊢
      rw [e0]
      by_cases z : S.o c1.2.1 0 = 303
      · rw [if_pos z] at h4 ⊢
        exact ⟨h4.1, LBC.mv (c :: L) _ h4.2 eoL (fun _ _ _ => rfl)⟩
      · rw [if_neg z] at h4 ⊢
        by_cases y : S.o c1.2.1 0 = 205 ∨ S.o c1.2.1 0 = 206 ∨ S.o c1.2.1 0 = 207 ∨ S.o c1.2.1 0 = 304
        · rw [if_pos y] at h4 ⊢
          exact LBC.mv (c :: L) _ h4 eoL (fun _ _ _ => rfl)
        · rw [if_neg y] at h4 ⊢
          exact LBC.mv (c :: L) _ h4 eoL (fun _ _ _ => rfl)
    · obtain ⟨b1, b2, b3, b4, b5, b6, b7, b8, b9, b10, b11⟩ := h5
      refine ⟨fun k hk => by rw [Wr.1]; exact b1 k hk, fun k a hk ha => ?_, by rw [Wi]; exact b3, by rw [Wi]; exact b4, fun k hk => by rw [Wa]; exact b5 k hk, by rw [Wi]; exact b6, by rw [Wi]; exact b7, fun k hk => by rw [Wa]; exact b8 k hk, fun k q1 q2 => by rw [Wa]; rw [Wi] at q2; exact b9 k q1 q2, ?_, by rw [Wi]; exact b11⟩
      · have z := b2 k a hk ha
        have e := Wo a (fun w => by
          rw [w] at ha
          have := h1.ri.2.1 k c1.1 c1.2.1 (by have := c1s.2.1; omega) c1s.2.1 ((b1 k hk).trans ha) c1s.1
          omega)
        exact ⟨e.trans z.1, by rw [Wr.2]; exact z.2⟩
      · unfold RTE at *
        rw [Wi]
        exact b10
    · have z := h13.2.2.2.1
      have w1 : cfl S (c1 :: c :: L) (S.i 22).toInt = cfl S (c :: L) (if S.o c1.2.1 0 = 218 then (S.o c1.2.1 13).toInt else (S.i 22).toInt) := rfl
      have w2 : cfl W (c1 :: c :: L) (W.i 22).toInt = cfl W (c :: L) (if W.o c1.2.1 0 = 218 then (W.o c1.2.1 13).toInt else (W.i 22).toInt) := rfl
      rw [w1] at z
      rw [w2, e0, Wk 13 (by decide), Wi, cfl.eq (c :: L) _ eoL]
      exact z
    · unfold IAR at *
      rw [Wi, Wr.1]
      exact h17
    · unfold COL PLF at *
      simp only [e0]
      exact h21
  have tpW : TOP W s c1 := ⟨by rw [Wi]; exact tp.1, by rw [e0]; exact tp.2.1, by rw [e0]; exact tp.2.2⟩
  have oneW : isOne (W.o c1.2.1 0) := by rw [e0]; exact one
  have n305 : ¬ S.o c1.2.1 0 = 305 := fun z => by
    rw [z] at one
    unfold isOne at one
    exact absurd one (by decide)
  have n218 : ¬ S.o c1.2.1 0 = 218 := fun z => by
    rw [z] at one
    unfold isOne at one
    exact absurd one (by decide)
  have lwW : LOW W s c1 := ⟨by rw [e0]; exact n305, fun z => absurd (by rw [← e0]; exact z) n218, fun z => absurd oneW z, fun _ => W5⟩
  have t53 := tpW.1
  obtain ⟨r1, r2, r3, r4, r5⟩ := BAZ.all cW.2.2.2.2.1 (c :: L) c1 _ _ _ bz cW.2.1 (by omega)
  refine OUTS.mj (st_any hN hm1 hm2 hE hE2 hY cW ⟨tpW, lwW, by rw [e0, wd], ts, h64, h65⟩ (by omega) (fun z1 z2 z3 => ?_) (fun z => ?_) r1 r2 r3 (fun _ => ⟨n410, n411⟩) (Or.inr oneW) e2 g) (fun V' R' u' h ku jw => h ku ?_)
  · rw [e0] at z1 z2 z3
    rw [Wi, Wk 3 (by decide)]
    exact hm z1 z2 z3
  · rw [e0] at z
    unfold cod
    exact if_pos ⟨z, o5⟩
  · have veq : vws W s (c1 :: c :: L) = vws S s (c1 :: c :: L) := by
      have e1 : vw W s c1 = vw S s c1 := by
        have z : ∀ k : Nat, (vw W s c1).1 k = (vw S s c1).1 k := fun k => by
          show (if k = 5 then 0 else W.o c1.2.1 k) = (if k = 5 then 0 else S.o c1.2.1 k)
          by_cases q : k = 5
          · rw [if_pos q, if_pos q]
          · rw [if_neg q, if_neg q, Wk k q]
        exact Prod.ext (funext z) (by
          show (_, _) = (_, _)
          rw [Wk 3 (by decide)])
      show vw W s c1 :: vws W s (c :: L) = vw S s c1 :: vws S s (c :: L)
      rw [e1, vws.eq (T := ceT c1 + 1) (fun _ _ => rfl) (c :: L) (fun y hy => cW.o3 y (List.mem_cons_of_mem _ hy) |> fun z => by rw [e3] at z; exact z) eoL (fun _ _ => ⟨rfl, rfl, rfl, rfl, rfl, rfl, rfl, rfl, rfl, rfl, rfl⟩) (fun y hy => by
        have z1 := (cW.iL tpW y hy).2.2.1
        have z2 := wid1 (W.o y.2.1 0)
        omega)]
    rw [veq]
    exact jw.mv (R := W) (u := s) ⟨⟨by rw [Wi], by rw [Wi], by rw [Wi], by rw [Wi], by rw [Wi]⟩, by rw [Wa], by rw [Wa], by rw [Wa], by rw [Wa]⟩ (by rw [Wi]) (by rw [Wi]) (by rw [Wi]) (by rw [Wa]) (by rw [Wa]) (D52.rf s) ⟨rfl, rfl, rfl, rfl, rfl, rfl⟩ ⟨rfl, rfl, rfl, rfl, rfl, rfl, rfl, rfl, rfl⟩
end
section
/-! both readers: a one-body row's end -/
theorem tn_end {N : Nat} (hN : 1000 ≤ N) {E1 : CS → Option (Unit × CS)} {E2 : CS → Option (Int32 × CS)} (hm1 : ∀ σ, Kf (CS.i σ 32) (E1 σ)) (hm2 : ∀ σ, Kf (CS.i σ 32) (E2 σ)) (hE2 : SXN N 22 E2) {d : Int32} {B : CS} {b : RS} {t0 n : Nat} {L : List CEL} {x : Int} {S : CS} {s U : RS} {c1 c : CEL} {R : Unit × CS} {Aj : JBA} (mA : JBM U Aj) (hC : COR d B b t0 (c1 :: c :: L) x S s) (tp : TOP S s c1) (hM : MEN c1 S s) (h36 : S.i 36 = 0 ∨ S.i 36 = 1) (bz : BAZ B b (c1 :: c :: L)) (hT : t0 ≤ ceT c1) (n203 : ¬ (S.o c1.2.1 0 = 203 ∧ S.i 43 = 204)) (e : f_X7_bodyTurn N E1 E2 S c1.2.1 = some R) (g : f_X12_parse_10 N n s = some U) : (¬ R.2.i 32 = 0 ∧ ¬ U.i 15 = 0) ∨ ∃ (m : Nat) (u : RS), f_X12_parse_10 N m u = some U ∧ POPD d B b t0 c L R.2 u ∧ JTR Aj U B b (c1 :: c :: L) S s (vws R.2 u (c :: L)) R.2 u := by
  have hM' := hM
  obtain ⟨one, o5, -⟩ := hM'
  unfold f_X7_bodyTurn at e
  obtain ⟨-, e⟩ := hf_ite e
  rw [if_neg (by rw [o5]; decide)] at e
  have e1 : f_X7_endBody N E1 E2 S c1.2.1 = some R := ob_un e
  rcases one with z | z | z | z | z | z | z
  · exact Or.inr (en_if0 mA hC tp hM z (fun y => n203 ⟨z, y⟩) bz hT e1 g)
  · exact Or.inr (en_else mA hC tp hM h36 z bz hT e1 g)
  · exact Or.inr (en_lab mA hC tp hM h36 z bz hT e1 g)
  · exact Or.inr (en_while mA hC tp hM z bz hT e1 g)
  · exact en_do hN hm1 hm2 hE2 mA hC tp hM z bz hT e1 g
  · exact Or.inr (en_for mA hC tp hM z bz hT e1 g)
  · exact Or.inr (en_row mA hC tp hM z bz hT e1 g)
end
section
/-! both readers: a list row's end -/
theorem tn_lend {N : Nat} (hN : 1000 ≤ N) {d : Int32} {B : CS} {b : RS} {t0 n : Nat} {L : List CEL} {x : Int} {S : CS} {s U : RS} {c1 c : CEL} {R : Unit × CS} {Aj : JBA} (mA : JBM U Aj) (hC : COR d B b t0 (c1 :: c :: L) x S s) (tp : TOP S s c1) (hM : MLI c1 S s ∨ MSW c1 S s) (h36 : S.i 36 = 0 ∨ S.i 36 = 1) (hs : S.o c1.2.1 0 = 301 ∨ S.o c1.2.1 0 = 218 ∨ (S.o c1.2.1 0 = 213 ∨ S.o c1.2.1 0 = 215) ∨ S.o c1.2.1 0 = 212 ∨ S.o c1.2.1 0 = 216) (k125 : S.i 43 = 125) (bz : BAZ B b (c1 :: c :: L)) (hT : t0 ≤ ceT c1) (e : f_X7_endList N S c1.2.1 = some R) (g : f_X12_parse_10 N n s = some U) : (¬ R.2.i 32 = 0 ∧ ¬ U.i 15 = 0) ∨ NDM B R.2 U ∨ (∃ (m : Nat) (u : RS), f_X12_parse_10 N m u = some U ∧ NEW d B b t0 c L R.2 u (fun V R' u' => JRW Aj U B b (vws S s (c1 :: c :: L)) S s → JRX Aj U B b V R' u')) ∨ ∃ (m : Nat) (u : RS), f_X12_parse_10 N m u = some U ∧ POPD d B b t0 c L R.2 u ∧ JTR Aj U B b (c1 :: c :: L) S s (vws R.2 u (c :: L)) R.2 u := by
  have nsw : ¬ S.o c1.2.1 0 = 218 → MLI c1 S s := fun z => hM.resolve_right (fun y => z y.1)
  rcases hs with z | z | z | z | z
  · exact Or.inr (Or.inr (Or.inr (en_block hN mA hC tp (nsw (by rw [z]; decide)) h36 z k125 bz hT e g)))
  · exact Or.inr (Or.inr (Or.inr (en_sw hN mA hC tp hM h36 z k125 bz hT e g)))
  · exact en_grd hN hC tp (nsw (by rcases z with y | y <;> rw [y] <;> decide)) h36 z k125 bz hT e g
  · exact Or.inr (Or.inr (Or.inr (en_lock hN mA hC tp (nsw (by rw [z]; decide)) h36 z k125 bz (BAZ.b38 _ bz).1 hT e g)))
  · exact Or.inr (Or.inr (Or.inr (en_fin hN hC tp (nsw (by rw [z]; decide)) h36 z k125 bz hT e g)))
end
section
/-! both readers: a turn of the class, by its row and its token -/
theorem isB1.one {v : Int32} (h : isB1 v) : isOne v := by
  rcases h with h | h | h | h | h | h | h <;> rw [h] <;> unfold isOne <;> decide
theorem isOne.b1 {v : Int32} (h : isOne v) : isB1 v := by
  rcases h with h | h | h | h | h | h | h <;> rw [h] <;> unfold isB1 <;> decide
/-- what a turn does -/
def KTN (N : Nat) (E1 : CS → Option (Unit × CS)) (E2 : CS → Option (Int32 × CS)) (S : CS) (a : Nat) (P : Unit × CS) : Prop :=
  (isOne (S.o a 0) ∧ f_X7_bodyTurn N E1 E2 S a = some P) ∨
  ((S.o a 0 = 305 ∧ S.i 43 = 215) ∧ f_X7_beginCatch N S a = some P) ∨
  ((S.o a 0 = 305 ∧ ¬ S.i 43 = 215) ∧ f_X7_beginFinally N S a = some P) ∨
  ((¬ isOne (S.o a 0) ∧ ¬ S.o a 0 = 305) ∧ (S.i 43 = 125 ∨ S.i 43 = 0) ∧ f_X7_endList N S a = some P) ∨
  ((¬ isOne (S.o a 0) ∧ S.o a 0 = 218) ∧ (¬ S.i 43 = 125 ∧ ¬ S.i 43 = 0) ∧ f_X7_groupTurn N E1 E2 S a = some P) ∨
  ((¬ isOne (S.o a 0) ∧ ¬ S.o a 0 = 305 ∧ ¬ S.o a 0 = 218) ∧ (¬ S.i 43 = 125 ∧ ¬ S.i 43 = 0) ∧ f_X7_statement N E1 E2 S 0 = some P)
theorem tn_kTB {N : Nat} {E1 : CS → Option (Unit × CS)} {E2 : CS → Option (Int32 × CS)} {K : CS → Option (Unit × CS)} {S : CS} {a : Nat} {R : Unit × CS} (h : kTB N E1 E2 K S a = some R) : ∃ P : Unit × CS, KTN N E1 E2 S a P ∧ K P.2 = some R := by
  unfold kTB at h
  obtain ⟨hk, h⟩ := hf_ite h
  obtain ⟨p12, e12, h⟩ := hf_bind h
  obtain ⟨w, ew, w1, w2⟩ := q_hasOneBody (N := N) hk
  have ep : w = p12 := Option.some.inj (ew.symm.trans e12)
  rw [ep] at w1 w2
  rw [w1] at h
  rcases w2 with ⟨z, nb⟩ | ⟨z, ib⟩
  · have no : ¬ isOne (S.o a 0) := fun q => nb q.b1
    rw [if_pos z] at h
    obtain ⟨-, h⟩ := hf_ite h
    by_cases c5 : S.o a 0 = 305
    · rw [if_pos c5] at h
      by_cases t : S.i 43 = 215
      · rw [e_fnd1 t, ob_some, if_neg n10] at h
        obtain ⟨P, hP, h⟩ := hf_bind h
        exact ⟨P, Or.inr (Or.inl ⟨⟨c5, t⟩, hP⟩), h⟩
      · rw [e_fnd0 t, ob_some, if_pos rfl] at h
        obtain ⟨-, h⟩ := hf_ite h
        rw [if_pos c5] at h
        obtain ⟨P, hP, h⟩ := hf_bind h
        exact ⟨P, Or.inr (Or.inr (Or.inl ⟨⟨c5, t⟩, hP⟩)), h⟩
    · rw [if_neg c5] at h
      by_cases t1 : S.i 43 = 125
      · rw [e_fnd1 t1, ob_some, if_neg n10] at h
        obtain ⟨P, hP, h⟩ := hf_bind h
        exact ⟨P, Or.inr (Or.inr (Or.inr (Or.inl ⟨⟨no, c5⟩, Or.inl t1, hP⟩))), h⟩
      · rw [e_fnd0 t1, ob_some, if_pos rfl] at h
        by_cases t0 : S.i 43 = 0
        · rw [e_fnd1 t0, ob_some, if_neg n10] at h
          obtain ⟨P, hP, h⟩ := hf_bind h
          exact ⟨P, Or.inr (Or.inr (Or.inr (Or.inl ⟨⟨no, c5⟩, Or.inr t0, hP⟩))), h⟩
        · rw [e_fnd0 t0, ob_some, if_pos rfl] at h
          obtain ⟨-, h⟩ := hf_ite h
          by_cases c8 : S.o a 0 = 218
          · rw [if_pos c8] at h
            obtain ⟨P, hP, h⟩ := hf_bind h
            exact ⟨P, Or.inr (Or.inr (Or.inr (Or.inr (Or.inl ⟨⟨no, c8⟩, ⟨t1, t0⟩, hP⟩)))), h⟩
          · rw [if_neg c8] at h
            obtain ⟨P, hP, h⟩ := hf_bind h
            exact ⟨P, Or.inr (Or.inr (Or.inr (Or.inr (Or.inr ⟨⟨no, c5, c8⟩, ⟨t1, t0⟩, hP⟩)))), h⟩
  · rw [z, if_neg (by decide)] at h
    obtain ⟨P, hP, h⟩ := hf_bind h
    exact ⟨P, Or.inl ⟨ib.one, hP⟩, h⟩
/-- one turn more -/
theorem tn_step {N n m a : Nat} {E1 : CS → Option (Unit × CS)} {E2 : CS → Option (Int32 × CS)} {S : CS} {x1 x2 : Int32} {R : Unit × CS} (h : f_X7_turns_2 N E1 E2 (n + 1) S x1 x2 = some R) (nf : S.i 32 = 0) (lt : x1.toInt < (S.i 53).toInt) (hm : (S.i 53).toInt = (m : Int) + 1) (m4 : m < 400) (ea : S.r 51 m = some a) : ∃ P : Unit × CS, KTN N E1 E2 S a P ∧ f_X7_turns_2 N E1 E2 n P.2 x1 (x2 + 1) = some R := by
  have h' : b_X7_turns_2 N E1 E2 (f_X7_turns_2 N E1 E2 n) S x1 x2 = some R := h
  rw [kTB.eq] at h'
  have nle : ¬ S.i 53 ≤ x1 := fun q => by
    have := le_int q
    omega
  by_cases t : 10000 ≤ x2
  · rw [if_pos t, if_pos ⟨nf, nle⟩] at h'
    cases h'
  rw [if_neg t, if_pos nf, if_neg nle] at h'
  obtain ⟨p4, e4, h'⟩ := hf_bind h'
  have i53 : (S.i 53 - 1).toInt = (m : Int) := m1_int hm
  have e400 : (400 : Int32).toInt = 400 := by decide
  unfold f_X6_row at e4
  rw [if_neg (show ¬ S.i 53 - 1 < 0 from fun q => by
    have := lt_int q
    rw [i53, z_t0] at this
    omega), if_neg (show ¬ S.i 53 ≤ S.i 53 - 1 from fun q => by
    have := le_int q
    rw [i53] at this
    omega), if_neg (show ¬ (400 : Int32) ≤ S.i 53 - 1 from fun q => by
    have := le_int q
    rw [i53, e400] at this
    omega)] at e4
  obtain ⟨-, e4⟩ := hf_ite e4
  have en : (S.i 53 - 1).toNatClampNeg = m := by
    show (S.i 53 - 1).toInt.toNat = m
    rw [i53]
    exact Int.toNat_natCast _
  rw [en, ea] at e4
  have e4' : some (some a, S) = some p4 := e4
  rw [← Option.some.inj e4'] at h'
  have h2 : kTB N E1 E2 (fun s => f_X7_turns_2 N E1 E2 n s x1 (x2 + 1)) S a = some R := h'
  exact tn_kTB h2
/-- no turn more -/
theorem tn_stop {N n : Nat} {E1 : CS → Option (Unit × CS)} {E2 : CS → Option (Int32 × CS)} {S : CS} {x1 x2 : Int32} {R : Unit × CS} (h : f_X7_turns_2 N E1 E2 n S x1 x2 = some R) (z : ¬ S.i 32 = 0 ∨ (S.i 53).toInt ≤ x1.toInt) : R.2 = S := by
  cases n with
  | zero => cases h
  | succ n =>
    have h' : b_X7_turns_2 N E1 E2 (f_X7_turns_2 N E1 E2 n) S x1 x2 = some R := h
    rw [kTB.eq] at h'
    by_cases t : 10000 ≤ x2
    · rw [if_pos t, if_neg (fun q => ?_)] at h'
      · rw [← Option.some.inj h']
      · rcases z with z | z
        · exact z q.1
        · exact q.2 (Int32.le_iff_toInt_le.mpr z)
    rw [if_neg t] at h'
    by_cases nf : S.i 32 = 0
    · rw [if_pos nf, if_pos (Int32.le_iff_toInt_le.mpr (z.resolve_left (fun q => q nf)))] at h'
      rw [← Option.some.inj h']
    · rw [if_neg nf] at h'
      rw [← Option.some.inj h']
end
section
/-! both readers: what begins no statement, in the class -/
theorem y_122F {N : Nat} {E1 : CS → Option (Unit × CS)} {E2 : CS → Option (Int32 × CS)} {S : CS} {R : Unit × CS} (h : S.i 43 = 6 ∨ S.i 43 = 219 ∨ S.i 43 = 220) (e : f_X7_statement_122 N E1 E2 S = some R) : ¬ R.2.i 32 = 0 := by
  unfold f_X7_statement_122 at e
  obtain ⟨p, ep, e⟩ := hf_bind e
  have e1 := ob_un e
  have p43 : p.2.i 43 = S.i 43 := (kd_all (kd_X0_add N S 51 0 p ep)).2.2.2.1
  have nt : ∀ v : Int32, (v = 59 ∨ v = 200 ∨ v = 201 ∨ v = 202 ∨ v = 208 ∨ v = 209 ∨ v = 210 ∨ v = 211 ∨ v = 217 ∨ v = 221 ∨ v = 203 ∨ v = 204 ∨ v = 205 ∨ v = 206 ∨ v = 207 ∨ v = 212 ∨ v = 213 ∨ v = 214 ∨ v = 215 ∨ v = 216 ∨ v = 218) → ¬ p.2.i 43 = v := fun v hv q => by
    rw [p43] at q
    rcases h with z | z | z <;> rw [z] at q <;> rw [← q] at hv <;> exact absurd hv (by decide)
  unfold f_X7_plain at e1
  rw [if_neg (nt 59 (by decide)), if_neg (nt 200 (by decide)), if_neg (nt 201 (by decide)), if_neg (nt 202 (by decide)), if_neg (nt 208 (by decide)), if_neg (nt 209 (by decide)), if_neg (nt 210 (by decide)), if_neg (nt 211 (by decide)), if_neg (nt 217 (by decide)), if_neg (nt 221 (by decide))] at e1
  have e2 := ob_un e1
  unfold f_X7_compound at e2
  rw [if_neg (nt 203 (by decide)), if_neg (nt 204 (by decide)), if_neg (nt 205 (by decide)), if_neg (nt 206 (by decide)), if_neg (nt 207 (by decide)), if_neg (nt 208 (by decide)), if_neg (nt 209 (by decide)), if_neg (nt 210 (by decide)), if_neg (nt 211 (by decide)), if_neg (nt 212 (by decide)), if_neg (nt 213 (by decide)), if_neg (nt 214 (by decide)), if_neg (nt 215 (by decide)), if_neg (nt 216 (by decide)), if_neg (nt 217 (by decide)), if_neg (nt 218 (by decide))] at e2
  exact y_misp (ob_un e2)
theorem y_stF {N : Nat} {E1 : CS → Option (Unit × CS)} {E2 : CS → Option (Int32 × CS)} {S : CS} {x1 : Int32} {R : Unit × CS} (h : (S.i 43 = 6 ∨ S.i 43 = 219 ∨ S.i 43 = 220) ∨ ((S.i 43 = 200 ∨ S.i 43 = 201) ∧ ¬ x1 = 0)) (e : f_X7_statement N E1 E2 S x1 = some R) : ¬ R.2.i 32 = 0 := by
  have e0 : ∃ S' : CS, S'.i 43 = S.i 43 ∧ f_X7_statement_18 N E1 E2 S' x1 = some R := by
    unfold f_X7_statement at e
    by_cases c : S.i 36 = 0
    · rw [if_pos c] at e
      obtain ⟨p, ep, e⟩ := hf_bind e
      refine ⟨p.2, ?_, e⟩
      unfold f_X7_notReached at ep
      by_cases c7 : 0 ≤ S.i 37
      · rw [if_pos c7] at ep
        rw [← Option.some.inj ep]
      · rw [if_neg c7] at ep
        rw [← Option.some.inj ep]
        exact ci_ne _ _ _ (by decide)
    · rw [if_neg c] at e
      exact ⟨S, rfl, e⟩
  obtain ⟨S', h43, e⟩ := e0
  unfold f_X7_statement_18 at e
  have i43 : (CS.setI (CS.setI S' 36 1) 24 ((S'.i 24) + 1)).i 43 = S.i 43 := by
    rw [ci_ne _ _ _ (by decide), ci_ne _ _ _ (by decide), h43]
  obtain ⟨W, hW⟩ : ∃ W, W = CS.setI (CS.setI S' 36 1) 24 ((S'.i 24) + 1) := ⟨_, rfl⟩
  rw [← hW] at e i43
  clear hW
  have nt : ∀ v : Int32, (v = 2 ∨ v = 123) → ¬ W.i 43 = v := fun v hv q => by
    rw [i43] at q
    rcases h with (z | z | z) | ⟨z | z, -⟩ <;> rw [z] at q <;> rw [← q] at hv <;> exact absurd hv (by decide)
  rw [e_fnd0 (nt 2 (by decide)), ob_some, if_pos rfl, e_fnd0 (nt 123 (by decide)), ob_some, if_pos rfl] at e
  by_cases hx : x1 = 0
  · rw [if_pos hx] at e
    rcases h with z | ⟨-, z⟩
    · rw [← i43] at z
      exact y_122F z e
    · exact absurd hx z
  rw [if_neg hx] at e
  by_cases c0 : W.i 43 = 200
  · rw [e_fnd1 c0, ob_some, if_neg n10] at e
    exact y_misp (ob_un e)
  rw [e_fnd0 c0, ob_some, if_pos rfl] at e
  by_cases c1 : W.i 43 = 201
  · rw [e_fnd1 c1, ob_some, if_neg n10] at e
    exact y_misp (ob_un e)
  rw [e_fnd0 c1, ob_some, if_pos rfl] at e
  rcases h with z | ⟨z, -⟩
  · rw [← i43] at z
    exact y_122F z e
  · rw [← i43] at z
    rcases z with z | z
    · exact absurd z c0
    · exact absurd z c1
/-- the reference has faulted at a body's first word: the class does so now -/
theorem dm_step {N a m : Nat} {E1 : CS → Option (Unit × CS)} {E2 : CS → Option (Int32 × CS)} {d : Int32} {B S : CS} {U : RS} {P : Unit × CS} (h : DMD d B S U) (hm : (S.i 53).toInt = (m : Int) + 1) (ea : S.r 51 m = some a) (k : KTN N E1 E2 S a P) : ¬ P.2.i 32 = 0 := by
  obtain ⟨-, ⟨u, ev, tk⟩, -, a', m', h1, -, h2, one, o5⟩ := h
  have em : m' = m := by omega
  rw [em, ea] at h2
  have eaa : a' = a := (Option.some.inj h2).symm
  rw [eaa] at one o5
  have k200 := tk_is ev (a := 200) (b := 410) (Or.inr ⟨by decide, by decide⟩) (by decide)
  have k201 := tk_is ev (a := 201) (b := 411) (Or.inr ⟨by decide, by decide⟩) (by decide)
  have k6 := tk_is ev (a := 6) (b := 6) (Or.inl ⟨by decide, by decide⟩) (by decide)
  have n5 : ¬ S.o a 0 = 305 := fun z => by
    rw [z] at one
    unfold isOne at one
    exact absurd one (by decide)
  rcases k with ⟨-, k⟩ | ⟨⟨z, -⟩, -⟩ | ⟨⟨z, -⟩, -⟩ | ⟨⟨z, -⟩, -⟩ | ⟨⟨z, -⟩, -⟩ | ⟨⟨z, -⟩, -⟩
  · unfold f_X7_bodyTurn at k
    obtain ⟨-, k⟩ := hf_ite k
    rw [if_pos o5] at k
    refine y_stF ?_ (ob_un k)
    show (S.i 43 = 6 ∨ S.i 43 = 219 ∨ S.i 43 = 220) ∨ ((S.i 43 = 200 ∨ S.i 43 = 201) ∧ ¬ (1 : Int32) = 0)
    rcases tk with z | z | z
    · exact Or.inr ⟨Or.inl (k200.mpr z), n10⟩
    · exact Or.inr ⟨Or.inr (k201.mpr z), n10⟩
    · exact Or.inl (Or.inl (k6.mpr z))
  · exact absurd z n5
  · exact absurd z n5
  · exact absurd one z
  · exact absurd one z
  · exact absurd one z
end
section
/-! both readers: the class at a token that is none, behind the reference's fault -/
theorem gone_st {N : Nat} : ∀ (n : Nat) (S : CS) (a : Nat) (xc x3 : Int32) (P : Int32 × CS), f_X6_isGoneTo_5 N n S a xc x3 = some P → P.2 = S
  | 0, _, _, _, _, _, e => by cases e
  | n + 1, S, a, xc, x3, P, e => by
    have e' : b_X6_isGoneTo_5 N (f_X6_isGoneTo_5 N n) S a xc x3 = some P := e
    unfold b_X6_isGoneTo_5 at e'
    by_cases c : S.i 55 ≤ x3
    · rw [if_pos c] at e'
      rw [← Option.some.inj e']
    · rw [if_neg c] at e'
      obtain ⟨p4, e4, e'⟩ := hf_bind e'
      have z4 : p4.2 = S := by
        unfold f_X6_jumpTo at e4
        obtain ⟨-, e4⟩ := hf_ite e4
        by_cases q : xc = 0
        · rw [if_pos q] at e4
          rw [← Option.some.inj e4]
        · rw [if_neg q] at e4
          rw [← Option.some.inj e4]
      rw [z4] at e'
      by_cases q : gAt (S.a 52) 160 x3 = p4.1
      · rw [if_pos q] at e'
        rw [← Option.some.inj e']
      · rw [if_neg q] at e'
        exact gone_st n S a xc (x3 + 1) P e'
theorem gone_s {N a : Nat} {S : CS} {xc : Int32} {P : Int32 × CS} (e : f_X6_isGoneTo N S a xc = some P) : P.2 = S := by
  unfold f_X6_isGoneTo at e
  obtain ⟨-, e⟩ := hf_ite e
  exact gone_st N S a xc _ P e
theorem nd_pop {S X : CS} {n0 m : Nat} (h : NDC S n0) (hm : (S.i 53).toInt = (m : Int) + 1) (lt : n0 < m) (x53 : (X.i 53).toInt = (m : Int)) (xr : X.r = S.r) (xo : X.o = S.o) (x43 : X.i 43 = S.i 43) : ¬ X.i 32 = 0 ∨ NDC X n0 := by
  by_cases z : X.i 32 = 0
  · right
    obtain ⟨h1, h2, ⟨h3, h4⟩, h5⟩ := h
    refine ⟨z, x43.trans h2, ⟨by omega, by omega⟩, fun n a1 a2 => ?_⟩
    obtain ⟨a, b1, b2, b3⟩ := h5 n a1 (by omega)
    exact ⟨a, by rw [xr]; exact b1, by rw [xo]; exact b2, fun q => by rw [xo]; exact b3 q⟩
  · exact Or.inl z
theorem nd_193 {N a : Nat} {E1 : CS → Option (Unit × CS)} {E2 : CS → Option (Int32 × CS)} {S Q : CS} {v : Int32} {n0 m : Nat} {P : Unit × CS} (h : NDC S n0) (hm : (S.i 53).toInt = (m : Int) + 1) (lt : n0 < m) (kd : pj2 Q = pj2 S) (e : f_X7_endBody_193 N E1 E2 (CS.setI Q 36 v) a = some P) : ¬ P.2.i 32 = 0 ∨ NDC P.2 n0 := by
  obtain ⟨⟨z1, z2, z3, z4⟩, ⟨z5, z6⟩, ⟨z7, z8, z9, z10, z11⟩, ⟨z12, z13, z14, z15, z16, z17, z18⟩⟩ := kd_all kd
  obtain ⟨i1, -, i2, -, i3, i4, -⟩ := e_193 (n := m - 1) (by rw [z15]; omega) e
  exact nd_pop h hm lt (by omega) (i3.trans z1) (i4.trans z2) ((i1 43 (by decide) (by decide) (by decide)).trans z12)
theorem nd_do {N a : Nat} {E1 : CS → Option (Unit × CS)} {E2 : CS → Option (Int32 × CS)} (hm1 : ∀ σ, Kf (CS.i σ 32) (E1 σ)) (hm2 : ∀ σ, Kf (CS.i σ 32) (E2 σ)) {S : CS} {x2 : Int32} {P : Unit × CS} (h : ¬ S.i 43 = 205) (eD : f_X7_endDo_25 N E1 E2 S a x2 = some P) : ¬ P.2.i 32 = 0 := by
  unfold f_X7_endDo_25 f_X7_conditionInside at eD
  obtain ⟨p2, e2', eD⟩ := hf_bind eD
  have z0 : ¬ p2.2.i 32 = 0 := by
    unfold f_X1_expect at e2'
    rw [e_fnd0 h, ob_some, if_pos rfl] at e2'
    exact y_misp (ob_un e2')
  obtain ⟨-, eD⟩ := hf_ite eD
  obtain ⟨p7, e7, eD⟩ := hf_bind eD
  obtain ⟨p11, e11, eD⟩ := hf_bind eD
  obtain ⟨y1, ey1, e11⟩ := hf_bind e11
  obtain ⟨y5, ey5, e11⟩ := hf_bind e11
  obtain ⟨y9, ey9, e11⟩ := hf_bind e11
  obtain ⟨hb01, e11⟩ := hf_ite e11
  cases e11
  obtain ⟨p15, e15, eD⟩ := hf_bind eD
  obtain ⟨-, eD⟩ := hf_ite eD
  obtain ⟨p20, e20, eD⟩ := hf_bind eD
  obtain ⟨-, eD⟩ := hf_ite eD
  obtain ⟨p25, e25, eD⟩ := hf_bind eD
  obtain ⟨-, eD⟩ := hf_ite eD
  obtain ⟨p30, e30, eD⟩ := hf_bind eD
  have z7 : ¬ p7.2.i 32 = 0 := by rw [kF_X0_aim N p2.2 _ p7 e7 z0]; exact z0
  have y1' : ¬ y1.2.i 32 = 0 := by rw [kF_X1_open N p7.2 40 y1 ey1 z7]; exact z7
  have y5' : ¬ y5.2.i 32 = 0 := by rw [kF_X1_condition N E1 E2 hm1 hm2 y1.2 y5 ey5 y1']; exact y1'
  have y9' : ¬ y9.2.i 32 = 0 := by rw [kF_X1_close N y5.2 41 y9 ey9 y5']; exact y5'
  have z15 : ¬ p15.2.i 32 = 0 := by rw [kF_X1_expect N y9.2 59 p15 e15 y9']; exact y9'
  have z20 : ¬ p20.2.i 32 = 0 := by rw [fst_add e20]; exact z15
  have z25 : ¬ p25.2.i 32 = 0 := by rw [fst_add e25]; exact z20
  have z30 : ¬ p30.2.i 32 = 0 := by rw [kF_X0_aim N p25.2 _ p30 e30 z25]; exact z25
  exact fl_do eD z30
theorem nd_body {N a m n0 : Nat} {E1 : CS → Option (Unit × CS)} {E2 : CS → Option (Int32 × CS)} (hm1 : ∀ σ, Kf (CS.i σ 32) (E1 σ)) (hm2 : ∀ σ, Kf (CS.i σ 32) (E2 σ)) {S : CS} {P : Unit × CS} (h : NDC S n0) (hm : (S.i 53).toInt = (m : Int) + 1) (lt : n0 < m) (e : f_X7_endBody N E1 E2 S a = some P) : ¬ P.2.i 32 = 0 ∨ NDC P.2 n0 := by
  have t6 := h.2.1
  unfold f_X7_endBody at e
  obtain ⟨-, e⟩ := hf_ite e
  by_cases c3 : S.o a 0 = 203
  · rw [if_pos c3] at e
    have e1 := ob_un e
    unfold f_X7_endIf f_X1_skip f_X1_skip_17 at e1
    rw [e_fnd0 (show ¬ S.i 43 = 204 by rw [t6]; decide), ob_some, if_pos rfl, if_pos (Or.inl rfl), ob_some, if_pos rfl] at e1
    obtain ⟨-, e1⟩ := hf_ite e1
    obtain ⟨p23, e23, e1⟩ := hf_bind e1
    have kd := kd_X0_aim N _ _ p23 e23
    obtain ⟨⟨z1, z2, z3, z4⟩, ⟨z5, z6⟩, ⟨z7, z8, z9, z10, z11⟩, ⟨z12, z13, z14, z15, z16, z17, z18⟩⟩ := kd_all kd
    have ep := ob_un e1
    have i53 : (CS.setI p23.2 36 1).i 53 = S.i 53 := (ci_ne _ _ _ (by decide)).trans z15
    obtain ⟨q1, q2⟩ := e_pop (n := m - 1) (by rw [i53]; omega) ep
    refine nd_pop h hm lt ?_ ?_ ?_ ?_
    · rw [q1, ci_at, q2]
      omega
    · rw [q1]
      exact z1
    · rw [q1]
      exact z2
    · rw [q1, ci_ne _ _ _ (by decide), ci_ne _ _ _ (by decide)]
      exact z12
  rw [if_neg c3] at e
  by_cases c4 : S.o a 0 = 204
  · rw [if_pos c4] at e
    obtain ⟨p8, e8, e⟩ := hf_bind e
    have kd := kd_X0_aim N _ _ p8 e8
    by_cases q : p8.2.i 36 = 0
    · rw [if_pos q] at e
      obtain ⟨-, e⟩ := hf_ite e
      by_cases q6 : p8.2.o a 6 = 0
      · rw [if_pos q6] at e
        exact nd_193 h hm lt kd e
      · rw [if_neg q6] at e
        exact nd_193 h hm lt kd e
    · rw [if_neg q] at e
      exact nd_193 h hm lt kd e
  rw [if_neg c4] at e
  by_cases c6 : S.o a 0 = 206
  · rw [if_pos c6] at e
    obtain ⟨p21, e21, e⟩ := hf_bind e
    have nw : ¬ S.i 43 = 205 := by rw [t6]; decide
    have z : ¬ p21.2.i 32 = 0 := by
      unfold f_X7_endDo f_X7_endDo_19 at e21
      by_cases q : S.i 36 = 0
      · rw [if_pos q] at e21
        obtain ⟨p46, e46, e21⟩ := hf_bind e21
        rw [gone_s e46] at e21
        by_cases q1 : p46.1 = 0
        · rw [if_pos q1] at e21
          exact nd_do hm1 hm2 nw e21
        · rw [if_neg q1] at e21
          exact nd_do hm1 hm2 nw e21
      · rw [if_neg q] at e21
        exact nd_do hm1 hm2 nw e21
    left
    rw [kF_X7_endBody_193 N E1 E2 hm1 hm2 p21.2 _ P e z]
    exact z
  rw [if_neg c6] at e
  by_cases c33 : S.o a 0 = 303
  · rw [if_pos c33] at e
    obtain ⟨p26, e26, e⟩ := hf_bind e
    have kd := kd_X0_aim N _ _ p26 e26
    by_cases q : p26.2.i 36 = 0
    · rw [if_pos q] at e
      obtain ⟨p31, e31, e⟩ := hf_bind e
      rw [gone_s e31] at e
      by_cases q1 : p31.1 = 0
      · rw [if_pos q1] at e
        exact nd_193 h hm lt kd e
      · rw [if_neg q1] at e
        exact nd_193 h hm lt kd e
    · rw [if_neg q] at e
      exact nd_193 h hm lt kd e
  rw [if_neg c33] at e
  obtain ⟨p36, e36, e⟩ := hf_bind e
  obtain ⟨-, e⟩ := hf_ite e
  obtain ⟨p41, e41, e⟩ := hf_bind e
  obtain ⟨-, e⟩ := hf_ite e
  have kd : pj2 p41.2 = pj2 S := (kd_X0_aim N _ _ p41 e41).trans (kd_X0_add N _ _ _ p36 e36)
  by_cases q : p41.2.o a 7 = 0
  · rw [if_pos q] at e
    exact nd_193 h hm lt kd e
  · rw [if_neg q] at e
    obtain ⟨p47, e47, e⟩ := hf_bind e
    rw [gone_s e47] at e
    by_cases q1 : p47.1 = 0
    · rw [if_pos q1] at e
      exact nd_193 h hm lt kd e
    · rw [if_neg q1] at e
      exact nd_193 h hm lt kd e
/-- one turn: a fault, or a row less -/
theorem nd_step {N a m n0 : Nat} {E1 : CS → Option (Unit × CS)} {E2 : CS → Option (Int32 × CS)} (hm1 : ∀ σ, Kf (CS.i σ 32) (E1 σ)) (hm2 : ∀ σ, Kf (CS.i σ 32) (E2 σ)) {S : CS} {P : Unit × CS} (h : NDC S n0) (hm : (S.i 53).toInt = (m : Int) + 1) (ea : S.r 51 m = some a) (k : KTN N E1 E2 S a P) : ¬ P.2.i 32 = 0 ∨ NDC P.2 n0 := by
  obtain ⟨h1, t6, ⟨h3, h4⟩, h5⟩ := id h
  obtain ⟨a', b1, b2, b3⟩ := h5 m (by omega) (by omega)
  have eaa : a' = a := Option.some.inj (b1.symm.trans ea)
  rw [eaa] at b2 b3
  have tk : ∀ {x1 : Int32} {W : CS}, W.i 43 = 6 → f_X7_statement N E1 E2 W x1 = some P → ¬ P.2.i 32 = 0 := fun hw e => y_stF (Or.inl (Or.inl hw)) e
  rcases k with ⟨one, k⟩ | ⟨⟨z, -⟩, -⟩ | ⟨⟨z, -⟩, -⟩ | ⟨-, z, -⟩ | ⟨-, -, k⟩ | ⟨-, -, k⟩
  · have lt : n0 < m := by
      by_cases q : m = n0
      · exact absurd one (b3 q)
      · omega
    unfold f_X7_bodyTurn at k
    obtain ⟨-, k⟩ := hf_ite k
    by_cases o5 : S.o a 5 = 0
    · rw [if_pos o5] at k
      exact Or.inl (tk (show (CS.setO S a 5 1).i 43 = 6 from t6) (ob_un k))
    · rw [if_neg o5] at k
      exact nd_body hm1 hm2 h hm lt (ob_un k)
  · exact absurd z b2
  · exact absurd z b2
  · rw [t6] at z
    exact absurd z (by decide)
  · unfold f_X7_groupTurn at k
    rw [e_fnd0 (show ¬ S.i 43 = 219 by rw [t6]; decide), ob_some, if_pos rfl, e_fnd0 (show ¬ S.i 43 = 220 by rw [t6]; decide), ob_some, if_pos rfl] at k
    obtain ⟨-, k⟩ := hf_ite k
    left
    by_cases o5 : S.o a 5 = 0
    · rw [if_pos o5] at k
      exact y_misp (ob_un k)
    · rw [if_neg o5] at k
      exact tk t6 (ob_un k)
  · exact Or.inl (tk t6 k)
end
section
/-! the reference: what was noted stays -/
def FQN (s r : RS) : Prop := (0 ≤ s.i 18 → r.i 18 = s.i 18) ∧ r.i 3 = s.i 3
theorem FQN.tr {s r u : RS} (h : FQN s r) (g : FQN r u) : FQN s u := ⟨fun q => (g.1 (by rw [h.1 q]; exact q)).trans (h.1 q), g.2.trans h.2⟩
def KRn {α : Type} (s : RS) (t : Option (α × RS)) : Prop := ∀ R, t = some R → FQN s R.2
def KVn (s : RS) (t : Option RS) : Prop := ∀ R, t = some R → FQN s R
theorem kln_some {α : Type} {s : RS} {r : α × RS} (h : FQN s r.2) : KRn s (some r) := fun R q => by
  cases q
  exact h
theorem kvn_some {s r : RS} (h : FQN s r) : KVn s (some r) := fun R q => by
  cases q
  exact h
theorem kln_none {α : Type} {s : RS} : KRn s (none : Option (α × RS)) := fun R q => by cases q
theorem kvn_none {s : RS} : KVn s (none : Option RS) := fun R q => by cases q
theorem kln_ite {α : Type} {s : RS} {c : Prop} [Decidable c] {x y : Option (α × RS)} (hx : KRn s x) (hy : KRn s y) : KRn s (if c then x else y) := by
  by_cases h : c
  · rw [if_pos h]; exact hx
  · rw [if_neg h]; exact hy
theorem kvn_ite {s : RS} {c : Prop} [Decidable c] {x y : Option RS} (hx : KVn s x) (hy : KVn s y) : KVn s (if c then x else y) := by
  by_cases h : c
  · rw [if_pos h]; exact hx
  · rw [if_neg h]; exact hy
theorem kln_st {α : Type} {s r : RS} {t : Option (α × RS)} (h : FQN s r) (g : KRn r t) : KRn s t := fun R q => h.tr (g R q)
theorem kvn_st {s r : RS} {t : Option RS} (h : FQN s r) (g : KVn r t) : KVn s t := fun R q => h.tr (g R q)
theorem kln_bind {α β : Type} {s : RS} {x : Option (α × RS)} {k : α × RS → Option (β × RS)} (hx : KRn s x) (hk : ∀ p : α × RS, KRn p.2 (k p)) : KRn s (x.bind k) := by
  intro R h
  obtain ⟨p, h1, h2⟩ := hf_bind h
  exact (hx p h1).tr (hk p R h2)
theorem kln_bindv {β : Type} {s : RS} {x : Option RS} {k : RS → Option (β × RS)} (hx : KVn s x) (hk : ∀ p : RS, KRn p (k p)) : KRn s (x.bind k) := by
  intro R h
  obtain ⟨p, h1, h2⟩ := hf_bind h
  exact (hx p h1).tr (hk p R h2)
theorem kvn_bind {α : Type} {s : RS} {x : Option (α × RS)} {k : α × RS → Option RS} (hx : KRn s x) (hk : ∀ p : α × RS, KVn p.2 (k p)) : KVn s (x.bind k) := by
  intro R h
  obtain ⟨p, h1, h2⟩ := hf_bind h
  exact (hx p h1).tr (hk p R h2)
theorem kvn_bindv {s : RS} {x : Option RS} {k : RS → Option RS} (hx : KVn s x) (hk : ∀ p : RS, KVn p (k p)) : KVn s (x.bind k) := by
  intro R h
  obtain ⟨p, h1, h2⟩ := hf_bind h
  exact (hx p h1).tr (hk p R h2)
theorem kln_f_X12_in_14 (N : Nat) (σ : RS) : KRn σ (f_X12_in_14 N σ) := by
  unfold f_X12_in_14
  exact (kln_some ⟨fun _ => rfl, rfl⟩)
theorem kln_f_X12_in (N : Nat) (σ : RS) (x0 : Int32) (x1 : Int32) (x2 : Int32) : KRn σ (f_X12_in N σ x0 x1 x2) := by
  unfold f_X12_in
  exact (kln_ite (kln_st ⟨fun _ => rfl, rfl⟩ (kln_f_X12_in_14 N σ)) (kln_ite (kln_st ⟨fun _ => rfl, rfl⟩ (kln_f_X12_in_14 N σ)) (kln_some ⟨fun _ => rfl, rfl⟩)))
theorem kln_f_X12_isUnder_21 (N : Nat) (σ : RS) (x2 : Int32) (x3 : Int32) : KRn σ (f_X12_isUnder_21 N σ x2 x3) := by
  unfold f_X12_isUnder_21
  exact (kln_ite (kln_some ⟨fun _ => rfl, rfl⟩) (kln_some ⟨fun _ => rfl, rfl⟩))
theorem kln_b_X12_isUnder_2 (N : Nat) (K : RS → Int32 → Int32 → Option (Int32 × RS)) (hK : ∀ (σ : RS) (y0 : Int32) (y1 : Int32), KRn σ (K σ y0 y1)) (σ : RS) (x2 : Int32) (x3 : Int32) : KRn σ (b_X12_isUnder_2 N K σ x2 x3) := by
  unfold b_X12_isUnder_2
  exact (kln_ite (kln_st ⟨fun _ => rfl, rfl⟩ (kln_f_X12_isUnder_21 N σ x2 x3)) (kln_ite (kln_st ⟨fun _ => rfl, rfl⟩ (kln_f_X12_isUnder_21 N σ x2 x3)) (kln_ite (kln_st ⟨fun _ => rfl, rfl⟩ (hK σ x2 (σ.a 4 ((x3 : Int32).toNatClampNeg)))) kln_none)))
theorem kln_f_X12_isUnder_2 (N : Nat) : ∀ (n : Nat) (σ : RS) (y0 : Int32) (y1 : Int32), KRn σ (f_X12_isUnder_2 N n σ y0 y1)
  | 0, _, _, _ => kln_none
  | n+1, σ, y0, y1 => kln_b_X12_isUnder_2 N (f_X12_isUnder_2 N n) (fun σ y0 y1 => kln_f_X12_isUnder_2 N n σ y0 y1) σ y0 y1
theorem kln_f_X12_isUnder (N : Nat) (σ : RS) (x1 : Int32) (x2 : Int32) : KRn σ (f_X12_isUnder N σ x1 x2) := by
  unfold f_X12_isUnder
  exact (kln_st ⟨fun _ => rfl, rfl⟩ (kln_f_X12_isUnder_2 N N σ x2 x1))
theorem kln_f_X12_at (N : Nat) (σ : RS) (x1 : Int32) : KRn σ (f_X12_at N σ x1) := by
  unfold f_X12_at
  exact (kln_ite (kln_some ⟨fun _ => rfl, rfl⟩) (kln_ite (kln_some ⟨fun _ => rfl, rfl⟩) kln_none))
theorem kln_f_X12_isLetter_16 (N : Nat) (σ : RS) : KRn σ (f_X12_isLetter_16 N σ) := by
  unfold f_X12_isLetter_16
  exact (kln_some ⟨fun _ => rfl, rfl⟩)
theorem kln_f_X12_isLetter (N : Nat) (σ : RS) (x0 : Int32) : KRn σ (f_X12_isLetter N σ x0) := by
  unfold f_X12_isLetter
  exact (kln_ite (kln_st ⟨fun _ => rfl, rfl⟩ (kln_f_X12_isLetter_16 N σ)) (kln_ite (kln_st ⟨fun _ => rfl, rfl⟩ (kln_f_X12_isLetter_16 N σ)) (kln_some ⟨fun _ => rfl, rfl⟩)))
theorem kln_f_X12_isDigit_16 (N : Nat) (σ : RS) : KRn σ (f_X12_isDigit_16 N σ) := by
  unfold f_X12_isDigit_16
  exact (kln_some ⟨fun _ => rfl, rfl⟩)
theorem kln_f_X12_isDigit (N : Nat) (σ : RS) (x0 : Int32) : KRn σ (f_X12_isDigit N σ x0) := by
  unfold f_X12_isDigit
  exact (kln_ite (kln_st ⟨fun _ => rfl, rfl⟩ (kln_f_X12_isDigit_16 N σ)) (kln_ite (kln_st ⟨fun _ => rfl, rfl⟩ (kln_f_X12_isDigit_16 N σ)) (kln_some ⟨fun _ => rfl, rfl⟩)))
theorem kln_b_X12_readName_260 (N : Nat) (K : RS → Int32 → Option (RS)) (hK : ∀ (σ : RS) (y0 : Int32), KVn σ (K σ y0)) (σ : RS) (x4 : Int32) : KVn σ (b_X12_readName_260 N K σ x4) := by
  unfold b_X12_readName_260
  exact (kvn_ite (kvn_some ⟨fun _ => rfl, rfl⟩) (kvn_ite (kvn_ite (kvn_st ⟨fun _ => rfl, rfl⟩ (hK (RS.setI σ 10 (410 + x4)) (x4 + 1))) (kvn_st ⟨fun _ => rfl, rfl⟩ (hK (RS.setI σ 10 (σ.i 10)) (x4 + 1)))) kvn_none))
theorem kln_f_X12_readName_260 (N : Nat) : ∀ (n : Nat) (σ : RS) (y0 : Int32), KVn σ (f_X12_readName_260 N n σ y0)
  | 0, _, _ => kvn_none
  | n+1, σ, y0 => kln_b_X12_readName_260 N (f_X12_readName_260 N n) (fun σ y0 => kln_f_X12_readName_260 N n σ y0) σ y0
theorem kln_f_X12_readName_257 (N : Nat) (σ : RS) : KVn σ (f_X12_readName_257 N σ) := by
  unfold f_X12_readName_257
  exact (kvn_st ⟨fun _ => rfl, rfl⟩ (kln_f_X12_readName_260 N N σ 0))
theorem kln_f_X12_readName_254 (N : Nat) (σ : RS) : KVn σ (f_X12_readName_254 N σ) := by
  unfold f_X12_readName_254
  exact (kvn_some ⟨fun _ => rfl, rfl⟩)
theorem kln_f_X12_readName_220 (N : Nat) (σ : RS) (x1 : Int32) (x3 : Int32) : KVn σ (f_X12_readName_220 N σ x1 x3) := by
  unfold f_X12_readName_220
  exact (kvn_ite (kvn_st ⟨fun _ => rfl, rfl⟩ (kln_f_X12_readName_254 N (RS.setI (RS.setI σ 10 5) 14 x3))) (kvn_bind (kln_st ⟨fun _ => rfl, rfl⟩ (kln_f_X12_at N (RS.setI σ 10 5) ((σ.i 11) + 2))) (fun p32 => (kvn_st ⟨fun _ => rfl, rfl⟩ (kln_f_X12_readName_254 N (RS.setI p32.2 14 ((10 + p32.1) - 48)))))))
theorem kln_f_X12_readName_189 (N : Nat) (σ : RS) (x1 : Int32) (x3 : Int32) : KVn σ (f_X12_readName_189 N σ x1 x3) := by
  unfold f_X12_readName_189
  exact (kvn_ite (kvn_ite (kvn_bind (kln_st ⟨fun _ => rfl, rfl⟩ (kln_f_X12_at N σ ((σ.i 11) + 2))) (fun p26 => (kvn_bind (kln_st ⟨fun _ => rfl, rfl⟩ (kln_f_X12_in N p26.2 (p26.1 - 48) 0 1)) (fun p28 => (kvn_ite (kvn_st ⟨fun _ => rfl, rfl⟩ (kln_f_X12_readName_257 N p28.2)) (kvn_st ⟨fun _ => rfl, rfl⟩ (kln_f_X12_readName_220 N p28.2 x1 x3))))))) (kvn_st ⟨fun _ => rfl, rfl⟩ (kln_f_X12_readName_257 N σ))) (kvn_st ⟨fun _ => rfl, rfl⟩ (kln_f_X12_readName_257 N σ)))
theorem kln_f_X12_readName_168 (N : Nat) (σ : RS) (x1 : Int32) (x2 : Int32) (x3 : Int32) : KVn σ (f_X12_readName_168 N σ x1 x2 x3) := by
  unfold f_X12_readName_168
  exact (kvn_ite (kvn_ite (kvn_bind (kln_st ⟨fun _ => rfl, rfl⟩ (kln_f_X12_in N σ x3 0 9)) (fun p34 => (kvn_ite (kvn_st ⟨fun _ => rfl, rfl⟩ (kln_f_X12_readName_189 N p34.2 x1 x3)) (kvn_st ⟨fun _ => rfl, rfl⟩ (kln_f_X12_readName_220 N p34.2 x1 x3))))) (kvn_st ⟨fun _ => rfl, rfl⟩ (kln_f_X12_readName_189 N σ x1 x3))) (kvn_st ⟨fun _ => rfl, rfl⟩ (kln_f_X12_readName_257 N σ)))
theorem kln_f_X12_readName_160 (N : Nat) (σ : RS) (x3 : Int32) : KVn σ (f_X12_readName_160 N σ x3) := by
  unfold f_X12_readName_160
  exact (kvn_some ⟨fun _ => rfl, rfl⟩)
theorem kln_f_X12_readName_135 (N : Nat) (σ : RS) (x1 : Int32) (x2 : Int32) (x3 : Int32) : KVn σ (f_X12_readName_135 N σ x1 x2 x3) := by
  unfold f_X12_readName_135
  exact (kvn_bind (kln_st ⟨fun _ => rfl, rfl⟩ (kln_f_X12_in N σ x3 0 7)) (fun p38 => (kvn_ite (kvn_st ⟨fun _ => rfl, rfl⟩ (kln_f_X12_readName_168 N p38.2 x1 x2 x3)) (kvn_ite (kvn_st ⟨fun _ => rfl, rfl⟩ (kln_f_X12_readName_160 N (RS.setI p38.2 10 3) x3)) (kvn_st ⟨fun _ => rfl, rfl⟩ (kln_f_X12_readName_160 N (RS.setI p38.2 10 4) x3))))))
theorem kln_b_X12_readName_5 (N : Nat) (K : RS → Option (RS)) (hK : ∀ (σ : RS), KVn σ (K σ)) (σ : RS) : KVn σ (b_X12_readName_5 N K σ) := by
  unfold b_X12_readName_5
  exact (kvn_bind (kln_st ⟨fun _ => rfl, rfl⟩ (kln_f_X12_at N σ (σ.i 12))) (fun p1 => (kvn_bind (kln_st ⟨fun _ => rfl, rfl⟩ (kln_f_X12_isLetter N p1.2 p1.1)) (fun p3 => (kvn_ite (kvn_bind (kln_st ⟨fun _ => rfl, rfl⟩ (kln_f_X12_at N p3.2 (p3.2.i 12))) (fun p8 => (kvn_bind (kln_st ⟨fun _ => rfl, rfl⟩ (kln_f_X12_isDigit N p8.2 p8.1)) (fun p10 => (kvn_ite (kvn_ite (kvn_bind (kln_st ⟨fun _ => rfl, rfl⟩ (kln_f_X12_at N p10.2 (p10.2.i 11))) (fun p14 => (kvn_bind (kln_st ⟨fun _ => rfl, rfl⟩ (kln_f_X12_at N p14.2 ((p14.2.i 11) + 1))) (fun p16 => (kvn_ite (kvn_ite (kvn_st ⟨fun _ => rfl, rfl⟩ (kln_f_X12_readName_135 N (RS.setI p16.2 10 2) ((p10.2.i 12) - (p10.2.i 11)) p14.1 (p16.1 - 48))) (kvn_ite (kvn_st ⟨fun _ => rfl, rfl⟩ (kln_f_X12_readName_135 N (RS.setI p16.2 10 2) ((p10.2.i 12) - (p10.2.i 11)) p14.1 (p16.1 - 48))) (kvn_st ⟨fun _ => rfl, rfl⟩ (kln_f_X12_readName_168 N (RS.setI p16.2 10 2) ((p10.2.i 12) - (p10.2.i 11)) p14.1 (p16.1 - 48))))) (kvn_st ⟨fun _ => rfl, rfl⟩ (kln_f_X12_readName_168 N (RS.setI p16.2 10 2) ((p10.2.i 12) - (p10.2.i 11)) p14.1 (p16.1 - 48)))))))) (kvn_some ⟨fun _ => rfl, rfl⟩)) (kvn_bind (kln_st ⟨fun _ => rfl, rfl⟩ (kln_f_X12_at N p10.2 (p10.2.i 12))) (fun p43 => (kvn_st ⟨fun _ => rfl, rfl⟩ (hK (RS.setI (RS.setL p43.2 ((p10.2.l <<< ((8 : Int32).toInt64 &&& 63)) ||| (p43.1 : Int32).toInt64)) 12 ((p43.2.i 12) + 1))))))))))) (kvn_bind (kln_st ⟨fun _ => rfl, rfl⟩ (kln_f_X12_at N p3.2 (p3.2.i 12))) (fun p6 => (kvn_st ⟨fun _ => rfl, rfl⟩ (hK (RS.setI (RS.setL p6.2 ((p3.2.l <<< ((8 : Int32).toInt64 &&& 63)) ||| (p6.1 : Int32).toInt64)) 12 ((p6.2.i 12) + 1)))))))))))
theorem kln_f_X12_readName_5 (N : Nat) : ∀ (n : Nat) (σ : RS), KVn σ (f_X12_readName_5 N n σ )
  | 0, _ => kvn_none
  | n+1, σ => kln_b_X12_readName_5 N (f_X12_readName_5 N n) (fun σ => kln_f_X12_readName_5 N n σ) σ
theorem kln_f_X12_readName (N : Nat) (σ : RS) : KVn σ (f_X12_readName N σ) := by
  unfold f_X12_readName
  exact (kvn_st ⟨fun _ => rfl, rfl⟩ (kln_f_X12_readName_5 N N (RS.setL σ 0)))
theorem kln_f_X12_readSign_306 (N : Nat) (σ : RS) (x1 : Int32) (x4 : Int32) : KVn σ (f_X12_readSign_306 N σ x1 x4) := by
  unfold f_X12_readSign_306
  exact (kvn_ite (kvn_some ⟨fun _ => rfl, rfl⟩) (kvn_some ⟨fun _ => rfl, rfl⟩))
theorem kln_f_X12_readSign_299 (N : Nat) (σ : RS) (x1 : Int32) : KVn σ (f_X12_readSign_299 N σ x1) := by
  unfold f_X12_readSign_299
  exact (kvn_st ⟨fun _ => rfl, rfl⟩ (kln_f_X12_readSign_306 N σ x1 1))
theorem kln_f_X12_readSign_165 (N : Nat) (σ : RS) (x1 : Int32) (x3 : Int32) : KVn σ (f_X12_readSign_165 N σ x1 x3) := by
  unfold f_X12_readSign_165
  exact (kvn_ite (kvn_ite (kvn_st ⟨fun _ => rfl, rfl⟩ (kln_f_X12_readSign_299 N σ x1)) (kvn_ite (kvn_st ⟨fun _ => rfl, rfl⟩ (kln_f_X12_readSign_299 N σ x1)) (kvn_ite (kvn_st ⟨fun _ => rfl, rfl⟩ (kln_f_X12_readSign_299 N σ x1)) (kvn_ite (kvn_st ⟨fun _ => rfl, rfl⟩ (kln_f_X12_readSign_299 N σ x1)) (kvn_ite (kvn_st ⟨fun _ => rfl, rfl⟩ (kln_f_X12_readSign_299 N σ x1)) (kvn_ite (kvn_st ⟨fun _ => rfl, rfl⟩ (kln_f_X12_readSign_299 N σ x1)) (kvn_ite (kvn_st ⟨fun _ => rfl, rfl⟩ (kln_f_X12_readSign_299 N σ x1)) (kvn_ite (kvn_st ⟨fun _ => rfl, rfl⟩ (kln_f_X12_readSign_299 N σ x1)) (kvn_ite (kvn_st ⟨fun _ => rfl, rfl⟩ (kln_f_X12_readSign_299 N σ x1)) (kvn_ite (kvn_st ⟨fun _ => rfl, rfl⟩ (kln_f_X12_readSign_299 N σ x1)) (kvn_ite (kvn_st ⟨fun _ => rfl, rfl⟩ (kln_f_X12_readSign_299 N σ x1)) (kvn_ite (kvn_st ⟨fun _ => rfl, rfl⟩ (kln_f_X12_readSign_299 N σ x1)) (kvn_ite (kvn_st ⟨fun _ => rfl, rfl⟩ (kln_f_X12_readSign_299 N σ x1)) (kvn_ite (kvn_st ⟨fun _ => rfl, rfl⟩ (kln_f_X12_readSign_299 N σ x1)) (kvn_ite (kvn_st ⟨fun _ => rfl, rfl⟩ (kln_f_X12_readSign_299 N σ x1)) (kvn_ite (kvn_st ⟨fun _ => rfl, rfl⟩ (kln_f_X12_readSign_299 N σ x1)) (kvn_ite (kvn_st ⟨fun _ => rfl, rfl⟩ (kln_f_X12_readSign_299 N σ x1)) (kvn_ite (kvn_st ⟨fun _ => rfl, rfl⟩ (kln_f_X12_readSign_299 N σ x1)) (kvn_ite (kvn_st ⟨fun _ => rfl, rfl⟩ (kln_f_X12_readSign_299 N σ x1)) (kvn_st ⟨fun _ => rfl, rfl⟩ (kln_f_X12_readSign_306 N σ x1 0))))))))))))))))))))) (kvn_some ⟨fun _ => rfl, rfl⟩))
theorem kln_f_X12_readSign_163 (N : Nat) (σ : RS) (x1 : Int32) : KVn σ (f_X12_readSign_163 N σ x1) := by
  unfold f_X12_readSign_163
  exact (kvn_st ⟨fun _ => rfl, rfl⟩ (kln_f_X12_readSign_165 N σ x1 0))
theorem kln_f_X12_readSign_145 (N : Nat) (σ : RS) (x1 : Int32) (x2 : Int32) : KVn σ (f_X12_readSign_145 N σ x1 x2) := by
  unfold f_X12_readSign_145
  exact (kvn_ite (kvn_ite (kvn_st ⟨fun _ => rfl, rfl⟩ (kln_f_X12_readSign_165 N σ x1 307)) (kvn_st ⟨fun _ => rfl, rfl⟩ (kln_f_X12_readSign_163 N σ x1))) (kvn_st ⟨fun _ => rfl, rfl⟩ (kln_f_X12_readSign_163 N σ x1)))
theorem kln_f_X12_readSign_127 (N : Nat) (σ : RS) (x1 : Int32) (x2 : Int32) : KVn σ (f_X12_readSign_127 N σ x1 x2) := by
  unfold f_X12_readSign_127
  exact (kvn_ite (kvn_ite (kvn_st ⟨fun _ => rfl, rfl⟩ (kln_f_X12_readSign_165 N σ x1 306)) (kvn_st ⟨fun _ => rfl, rfl⟩ (kln_f_X12_readSign_145 N σ x1 x2))) (kvn_st ⟨fun _ => rfl, rfl⟩ (kln_f_X12_readSign_145 N σ x1 x2)))
theorem kln_f_X12_readSign_109 (N : Nat) (σ : RS) (x1 : Int32) (x2 : Int32) : KVn σ (f_X12_readSign_109 N σ x1 x2) := by
  unfold f_X12_readSign_109
  exact (kvn_ite (kvn_ite (kvn_st ⟨fun _ => rfl, rfl⟩ (kln_f_X12_readSign_165 N σ x1 305)) (kvn_st ⟨fun _ => rfl, rfl⟩ (kln_f_X12_readSign_127 N σ x1 x2))) (kvn_st ⟨fun _ => rfl, rfl⟩ (kln_f_X12_readSign_127 N σ x1 x2)))
theorem kln_f_X12_readSign_91 (N : Nat) (σ : RS) (x1 : Int32) (x2 : Int32) : KVn σ (f_X12_readSign_91 N σ x1 x2) := by
  unfold f_X12_readSign_91
  exact (kvn_ite (kvn_ite (kvn_st ⟨fun _ => rfl, rfl⟩ (kln_f_X12_readSign_165 N σ x1 304)) (kvn_st ⟨fun _ => rfl, rfl⟩ (kln_f_X12_readSign_109 N σ x1 x2))) (kvn_st ⟨fun _ => rfl, rfl⟩ (kln_f_X12_readSign_109 N σ x1 x2)))
theorem kln_f_X12_readSign_73 (N : Nat) (σ : RS) (x1 : Int32) (x2 : Int32) : KVn σ (f_X12_readSign_73 N σ x1 x2) := by
  unfold f_X12_readSign_73
  exact (kvn_ite (kvn_ite (kvn_st ⟨fun _ => rfl, rfl⟩ (kln_f_X12_readSign_165 N σ x1 303)) (kvn_st ⟨fun _ => rfl, rfl⟩ (kln_f_X12_readSign_91 N σ x1 x2))) (kvn_st ⟨fun _ => rfl, rfl⟩ (kln_f_X12_readSign_91 N σ x1 x2)))
theorem kln_f_X12_readSign_55 (N : Nat) (σ : RS) (x1 : Int32) (x2 : Int32) : KVn σ (f_X12_readSign_55 N σ x1 x2) := by
  unfold f_X12_readSign_55
  exact (kvn_ite (kvn_ite (kvn_st ⟨fun _ => rfl, rfl⟩ (kln_f_X12_readSign_165 N σ x1 302)) (kvn_st ⟨fun _ => rfl, rfl⟩ (kln_f_X12_readSign_73 N σ x1 x2))) (kvn_st ⟨fun _ => rfl, rfl⟩ (kln_f_X12_readSign_73 N σ x1 x2)))
theorem kln_f_X12_readSign_37 (N : Nat) (σ : RS) (x1 : Int32) (x2 : Int32) : KVn σ (f_X12_readSign_37 N σ x1 x2) := by
  unfold f_X12_readSign_37
  exact (kvn_ite (kvn_ite (kvn_st ⟨fun _ => rfl, rfl⟩ (kln_f_X12_readSign_165 N σ x1 301)) (kvn_st ⟨fun _ => rfl, rfl⟩ (kln_f_X12_readSign_55 N σ x1 x2))) (kvn_st ⟨fun _ => rfl, rfl⟩ (kln_f_X12_readSign_55 N σ x1 x2)))
theorem kln_f_X12_readSign (N : Nat) (σ : RS) (x1 : Int32) : KVn σ (f_X12_readSign N σ x1) := by
  unfold f_X12_readSign
  exact (kvn_bind (kln_st ⟨fun _ => rfl, rfl⟩ (kln_f_X12_at N (RS.setI σ 12 ((σ.i 12) + 1)) ((σ.i 12) + 1))) (fun p1 => (kvn_ite (kvn_ite (kvn_st ⟨fun _ => rfl, rfl⟩ (kln_f_X12_readSign_165 N p1.2 x1 300)) (kvn_st ⟨fun _ => rfl, rfl⟩ (kln_f_X12_readSign_37 N p1.2 x1 p1.1))) (kvn_st ⟨fun _ => rfl, rfl⟩ (kln_f_X12_readSign_37 N p1.2 x1 p1.1)))))
theorem kln_f_X12_next_211 (N : Nat) (σ : RS) : KVn σ (f_X12_next_211 N σ) := by
  unfold f_X12_next_211
  exact (kvn_some ⟨fun _ => rfl, rfl⟩)
theorem kln_b_X12_next_116 (N : Nat) (K : RS → Option (RS)) (hK : ∀ (σ : RS), KVn σ (K σ)) (σ : RS) : KVn σ (b_X12_next_116 N K σ) := by
  unfold b_X12_next_116
  exact (kvn_bind (kln_st ⟨fun _ => rfl, rfl⟩ (kln_f_X12_at N σ (σ.i 12))) (fun p16 => (kvn_bind (kln_st ⟨fun _ => rfl, rfl⟩ (kln_f_X12_isDigit N p16.2 p16.1)) (fun p18 => (kvn_ite (kvn_ite (kvn_st ⟨fun _ => rfl, rfl⟩ (kln_f_X12_next_211 N (RS.setI p18.2 10 1))) (kvn_st ⟨fun _ => rfl, rfl⟩ (kln_f_X12_next_211 N (RS.setI p18.2 10 6)))) (kvn_ite (kvn_st ⟨fun _ => rfl, rfl⟩ (hK (RS.setI (RS.setI p18.2 14 (p18.2.i 14)) 12 ((p18.2.i 12) + 1)))) (kvn_bind (kln_st ⟨fun _ => rfl, rfl⟩ (kln_f_X12_at N p18.2 (p18.2.i 12))) (fun p23 => (kvn_st ⟨fun _ => rfl, rfl⟩ (hK (RS.setI (RS.setI p23.2 14 (((10 * (p18.2.i 14)) + p23.1) - 48)) 12 ((p23.2.i 12) + 1))))))))))))
theorem kln_f_X12_next_116 (N : Nat) : ∀ (n : Nat) (σ : RS), KVn σ (f_X12_next_116 N n σ )
  | 0, _ => kvn_none
  | n+1, σ => kln_b_X12_next_116 N (f_X12_next_116 N n) (fun σ => kln_f_X12_next_116 N n σ) σ
theorem kln_f_X12_next_68 (N : Nat) (σ : RS) : KVn σ (f_X12_next_68 N σ) := by
  unfold f_X12_next_68
  exact (kvn_bind (kln_st ⟨fun _ => rfl, rfl⟩ (kln_f_X12_at N (RS.setI σ 11 (σ.i 12)) (σ.i 12))) (fun p3 => (kvn_ite (kvn_some ⟨fun _ => rfl, rfl⟩) (kvn_bind (kln_st ⟨fun _ => rfl, rfl⟩ (kln_f_X12_isDigit N p3.2 p3.1)) (fun p6 => (kvn_ite (kvn_bind (kln_st ⟨fun _ => rfl, rfl⟩ (kln_f_X12_isLetter N p6.2 p3.1)) (fun p9 => (kvn_ite (kvn_bindv (kvn_st ⟨fun _ => rfl, rfl⟩ (kln_f_X12_readSign N p9.2 p3.1)) (fun p12 => (kvn_some ⟨fun _ => rfl, rfl⟩))) (kvn_bindv (kvn_st ⟨fun _ => rfl, rfl⟩ (kln_f_X12_readName N p9.2)) (fun p14 => (kvn_some ⟨fun _ => rfl, rfl⟩)))))) (kvn_st ⟨fun _ => rfl, rfl⟩ (kln_f_X12_next_116 N N (RS.setI p6.2 14 0)))))))))
theorem kln_b_X12_next_18 (N : Nat) (K : RS → Option (RS)) (hK : ∀ (σ : RS), KVn σ (K σ)) (σ : RS) : KVn σ (b_X12_next_18 N K σ) := by
  unfold b_X12_next_18
  exact (kvn_ite (kvn_st ⟨fun _ => rfl, rfl⟩ (kln_f_X12_next_68 N σ)) (kvn_bind (kln_st ⟨fun _ => rfl, rfl⟩ (kln_f_X12_at N σ (σ.i 12))) (fun p25 => (kvn_ite (kvn_st ⟨fun _ => rfl, rfl⟩ (hK (RS.setI p25.2 12 ((p25.2.i 12) + 1)))) (kvn_bind (kln_st ⟨fun _ => rfl, rfl⟩ (kln_f_X12_at N p25.2 (p25.2.i 12))) (fun p28 => (kvn_ite (kvn_st ⟨fun _ => rfl, rfl⟩ (hK (RS.setI p28.2 12 ((p28.2.i 12) + 1)))) (kvn_st ⟨fun _ => rfl, rfl⟩ (kln_f_X12_next_68 N p28.2)))))))))
theorem kln_f_X12_next_18 (N : Nat) : ∀ (n : Nat) (σ : RS), KVn σ (f_X12_next_18 N n σ )
  | 0, _ => kvn_none
  | n+1, σ => kln_b_X12_next_18 N (f_X12_next_18 N n) (fun σ => kln_f_X12_next_18 N n σ) σ
theorem kln_f_X12_next (N : Nat) (σ : RS) : KVn σ (f_X12_next N σ) := by
  unfold f_X12_next
  exact (kvn_ite (kvn_st ⟨fun _ => rfl, rfl⟩ (kln_f_X12_next_18 N N (RS.setI σ 17 ((σ.i 17) + 1)))) (kvn_some ⟨fun _ => rfl, rfl⟩))
theorem kln_f_X12_fail (N : Nat) (σ : RS) (x1 : Int32) (x2 : Int32) : KVn σ (f_X12_fail N σ x1 x2) := by
  unfold f_X12_fail
  exact (kvn_ite (kvn_some ⟨fun _ => rfl, rfl⟩) (kvn_some ⟨fun _ => rfl, rfl⟩))
theorem kln_f_X12_note (N : Nat) (σ : RS) (x1 : Int32) : KVn σ (f_X12_note N σ x1) := by
  unfold f_X12_note
  intro R h
  by_cases c : σ.i 15 = 0
  · rw [if_pos c] at h
    by_cases q : 0 ≤ σ.i 18
    · rw [if_pos q] at h
      cases h
      exact ⟨fun _ => rfl, rfl⟩
    · rw [if_neg q] at h
      cases h
      exact ⟨fun z => absurd z q, rfl⟩
  · rw [if_neg c] at h
    cases h
    exact ⟨fun _ => rfl, rfl⟩
theorem kln_f_X12_can_42 (N : Nat) (σ : RS) : KRn σ (f_X12_can_42 N σ) := by
  unfold f_X12_can_42
  exact (kln_ite (kln_some ⟨fun _ => rfl, rfl⟩) (kln_some ⟨fun _ => rfl, rfl⟩))
theorem kln_f_X12_can_20 (N : Nat) (σ : RS) : KRn σ (f_X12_can_20 N σ) := by
  unfold f_X12_can_20
  exact (kln_ite (kln_bindv (kvn_st ⟨fun _ => rfl, rfl⟩ (kln_f_X12_fail N σ 1 (σ.i 11))) (fun p7 => (kln_st ⟨fun _ => rfl, rfl⟩ (kln_f_X12_can_42 N p7)))) (kln_bindv (kvn_st ⟨fun _ => rfl, rfl⟩ (kln_f_X12_fail N σ 2 (σ.i 11))) (fun p5 => (kln_st ⟨fun _ => rfl, rfl⟩ (kln_f_X12_can_42 N p5)))))
theorem kln_f_X12_can (N : Nat) (σ : RS) (x1 : Int32) : KRn σ (f_X12_can N σ x1) := by
  unfold f_X12_can
  exact (kln_ite (kln_ite (kln_st ⟨fun _ => rfl, rfl⟩ (kln_f_X12_can_20 N σ)) (kln_ite (kln_st ⟨fun _ => rfl, rfl⟩ (kln_f_X12_can_20 N σ)) (kln_st ⟨fun _ => rfl, rfl⟩ (kln_f_X12_can_42 N σ)))) (kln_st ⟨fun _ => rfl, rfl⟩ (kln_f_X12_can_42 N σ)))
theorem kln_f_X12_need_31 (N : Nat) (σ : RS) : KRn σ (f_X12_need_31 N σ) := by
  unfold f_X12_need_31
  exact (kln_ite (kln_some ⟨fun _ => rfl, rfl⟩) (kln_some ⟨fun _ => rfl, rfl⟩))
theorem kln_f_X12_need_27 (N : Nat) (σ : RS) : KRn σ (f_X12_need_27 N σ) := by
  unfold f_X12_need_27
  exact (kln_bindv (kvn_st ⟨fun _ => rfl, rfl⟩ (kln_f_X12_next N σ)) (fun p7 => (kln_st ⟨fun _ => rfl, rfl⟩ (kln_f_X12_need_31 N p7))))
theorem kln_f_X12_need (N : Nat) (σ : RS) (x1 : Int32) : KRn σ (f_X12_need N σ x1) := by
  unfold f_X12_need
  exact (kln_ite (kln_ite (kln_bind (kln_st ⟨fun _ => rfl, rfl⟩ (kln_f_X12_can N σ 1)) (fun p9 => (kln_ite (kln_st ⟨fun _ => rfl, rfl⟩ (kln_f_X12_need_31 N p9.2)) (kln_st ⟨fun _ => rfl, rfl⟩ (kln_f_X12_need_27 N p9.2))))) (kln_bind (kln_st ⟨fun _ => rfl, rfl⟩ (kln_f_X12_can N σ 0)) (fun p4 => (kln_ite (kln_st ⟨fun _ => rfl, rfl⟩ (kln_f_X12_need_31 N p4.2)) (kln_st ⟨fun _ => rfl, rfl⟩ (kln_f_X12_need_27 N p4.2)))))) (kln_st ⟨fun _ => rfl, rfl⟩ (kln_f_X12_need_31 N σ)))
theorem kln_f_X12_opens_29 (N : Nat) (σ : RS) : KRn σ (f_X12_opens_29 N σ) := by
  unfold f_X12_opens_29
  exact (kln_ite (kln_some ⟨fun _ => rfl, rfl⟩) (kln_some ⟨fun _ => rfl, rfl⟩))
theorem kln_f_X12_opens (N : Nat) (σ : RS) : KRn σ (f_X12_opens N σ) := by
  unfold f_X12_opens
  exact (kln_ite (kln_st ⟨fun _ => rfl, rfl⟩ (kln_f_X12_opens_29 N (RS.setI σ 19 ((σ.i 19) + 1)))) (kln_bindv (kvn_st ⟨fun _ => rfl, rfl⟩ (kln_f_X12_fail N (RS.setI σ 19 ((σ.i 19) + 1)) 6 (σ.i 11))) (fun p3 => (kln_st ⟨fun _ => rfl, rfl⟩ (kln_f_X12_opens_29 N p3)))))
theorem kln_f_X12_open_38 (N : Nat) (σ : RS) : KRn σ (f_X12_open_38 N σ) := by
  unfold f_X12_open_38
  exact (kln_ite (kln_some ⟨fun _ => rfl, rfl⟩) (kln_some ⟨fun _ => rfl, rfl⟩))
theorem kln_f_X12_open_27 (N : Nat) (σ : RS) : KRn σ (f_X12_open_27 N σ) := by
  unfold f_X12_open_27
  exact (kln_bind (kln_st ⟨fun _ => rfl, rfl⟩ (kln_f_X12_opens N σ)) (fun p7 => (kln_ite (kln_st ⟨fun _ => rfl, rfl⟩ (kln_f_X12_open_38 N p7.2)) (kln_bindv (kvn_st ⟨fun _ => rfl, rfl⟩ (kln_f_X12_next N p7.2)) (fun p10 => (kln_st ⟨fun _ => rfl, rfl⟩ (kln_f_X12_open_38 N p10)))))))
theorem kln_f_X12_open (N : Nat) (σ : RS) (x1 : Int32) : KRn σ (f_X12_open N σ x1) := by
  unfold f_X12_open
  exact (kln_ite (kln_ite (kln_bind (kln_st ⟨fun _ => rfl, rfl⟩ (kln_f_X12_can N σ 1)) (fun p12 => (kln_ite (kln_st ⟨fun _ => rfl, rfl⟩ (kln_f_X12_open_38 N p12.2)) (kln_st ⟨fun _ => rfl, rfl⟩ (kln_f_X12_open_27 N p12.2))))) (kln_bind (kln_st ⟨fun _ => rfl, rfl⟩ (kln_f_X12_can N σ 0)) (fun p4 => (kln_ite (kln_st ⟨fun _ => rfl, rfl⟩ (kln_f_X12_open_38 N p4.2)) (kln_st ⟨fun _ => rfl, rfl⟩ (kln_f_X12_open_27 N p4.2)))))) (kln_st ⟨fun _ => rfl, rfl⟩ (kln_f_X12_open_38 N σ)))
theorem kln_f_X12_shut_18 (N : Nat) (σ : RS) : KRn σ (f_X12_shut_18 N σ) := by
  unfold f_X12_shut_18
  exact (kln_ite (kln_some ⟨fun _ => rfl, rfl⟩) (kln_some ⟨fun _ => rfl, rfl⟩))
theorem kln_f_X12_shut (N : Nat) (σ : RS) (x1 : Int32) : KRn σ (f_X12_shut N σ x1) := by
  unfold f_X12_shut
  exact (kln_bind (kln_st ⟨fun _ => rfl, rfl⟩ (kln_f_X12_need N σ x1)) (fun p1 => (kln_ite (kln_st ⟨fun _ => rfl, rfl⟩ (kln_f_X12_shut_18 N p1.2)) (kln_st ⟨fun _ => rfl, rfl⟩ (kln_f_X12_shut_18 N (RS.setI p1.2 19 ((p1.2.i 19) - 1)))))))
theorem kln_f_X12_emit_21 (N : Nat) (σ : RS) (x1 : Int32) (x2 : Int32) (x3 : Int32) : KRn σ (f_X12_emit_21 N σ x1 x2 x3) := by
  unfold f_X12_emit_21
  exact (kln_ite (kln_some ⟨fun _ => rfl, rfl⟩) kln_none)
theorem kln_f_X12_emit (N : Nat) (σ : RS) (x1 : Int32) (x2 : Int32) : KRn σ (f_X12_emit N σ x1 x2) := by
  unfold f_X12_emit
  exact (kln_ite (kln_st ⟨fun _ => rfl, rfl⟩ (kln_f_X12_emit_21 N σ x1 x2 2999)) (kln_st ⟨fun _ => rfl, rfl⟩ (kln_f_X12_emit_21 N σ x1 x2 (σ.i 20))))
theorem kln_b_X12_seenAs_7 (N : Nat) (K : RS → Int64 → Int32 → Option (Int32 × RS)) (hK : ∀ (σ : RS) (y0 : Int64) (y1 : Int32), KRn σ (K σ y0 y1)) (σ : RS) (x1 : Int64) (x3 : Int32) : KRn σ (b_X12_seenAs_7 N K σ x1 x3) := by
  unfold b_X12_seenAs_7
  exact (kln_ite (kln_some ⟨fun _ => rfl, rfl⟩) (kln_ite (kln_ite (kln_some ⟨fun _ => rfl, rfl⟩) (kln_st ⟨fun _ => rfl, rfl⟩ (hK σ x1 (x3 + (-1))))) kln_none))
theorem kln_f_X12_seenAs_7 (N : Nat) : ∀ (n : Nat) (σ : RS) (y0 : Int64) (y1 : Int32), KRn σ (f_X12_seenAs_7 N n σ y0 y1)
  | 0, _, _, _ => kln_none
  | n+1, σ, y0, y1 => kln_b_X12_seenAs_7 N (f_X12_seenAs_7 N n) (fun σ y0 y1 => kln_f_X12_seenAs_7 N n σ y0 y1) σ y0 y1
theorem kln_f_X12_seenAs (N : Nat) (σ : RS) (x1 : Int64) : KRn σ (f_X12_seenAs N σ x1) := by
  unfold f_X12_seenAs
  exact (kln_st ⟨fun _ => rfl, rfl⟩ (kln_f_X12_seenAs_7 N N σ x1 ((σ.i 38) - 1)))
theorem kln_f_X12_see (N : Nat) (σ : RS) (x1 : Int64) (x3 : Int32) : KRn σ (f_X12_see N σ x1 x3) := by
  unfold f_X12_see
  exact (kln_ite (kln_some ⟨fun _ => rfl, rfl⟩) kln_none)
theorem kln_f_X12_goal (N : Nat) (σ : RS) (x1 : Int32) (x2 : Int64) : KRn σ (f_X12_goal N σ x1 x2) := by
  unfold f_X12_goal
  exact (kln_ite (kln_some ⟨fun _ => rfl, rfl⟩) kln_none)
theorem kln_f_X12_loopGoal_49 (N : Nat) (σ : RS) (x1 : Int32) : KRn σ (f_X12_loopGoal_49 N σ x1) := by
  unfold f_X12_loopGoal_49
  exact (kln_some ⟨fun _ => rfl, rfl⟩)
theorem kln_b_X12_loopGoal_11 (N : Nat) (K : RS → Int32 → Int32 → Option (Int32 × RS)) (hK : ∀ (σ : RS) (y0 : Int32) (y1 : Int32), KRn σ (K σ y0 y1)) (σ : RS) (x1 : Int32) (x2 : Int32) : KRn σ (b_X12_loopGoal_11 N K σ x1 x2) := by
  unfold b_X12_loopGoal_11
  exact (kln_ite (kln_st ⟨fun _ => rfl, rfl⟩ (kln_f_X12_loopGoal_49 N σ x1)) (kln_ite (kln_ite (kln_ite (kln_st ⟨fun _ => rfl, rfl⟩ (hK (RS.setA σ 46 ((x2 : Int32).toNatClampNeg) x1) x1 (x2 + (-1)))) (kln_st ⟨fun _ => rfl, rfl⟩ (kln_f_X12_loopGoal_49 N σ x1))) (kln_st ⟨fun _ => rfl, rfl⟩ (kln_f_X12_loopGoal_49 N σ x1))) kln_none))
theorem kln_f_X12_loopGoal_11 (N : Nat) : ∀ (n : Nat) (σ : RS) (y0 : Int32) (y1 : Int32), KRn σ (f_X12_loopGoal_11 N n σ y0 y1)
  | 0, _, _, _ => kln_none
  | n+1, σ, y0, y1 => kln_b_X12_loopGoal_11 N (f_X12_loopGoal_11 N n) (fun σ y0 y1 => kln_f_X12_loopGoal_11 N n σ y0 y1) σ y0 y1
theorem kln_f_X12_loopGoal (N : Nat) (σ : RS) : KRn σ (f_X12_loopGoal N σ) := by
  unfold f_X12_loopGoal
  exact (kln_bind (kln_st ⟨fun _ => rfl, rfl⟩ (kln_f_X12_goal N σ 0 0)) (fun p1 => (kln_st ⟨fun _ => rfl, rfl⟩ (kln_f_X12_loopGoal_11 N N p1.2 p1.1 (p1.1 - 1)))))
theorem kln_b_X12_patch_2 (N : Nat) (K : RS → Int32 → Int32 → Option (RS)) (hK : ∀ (σ : RS) (y0 : Int32) (y1 : Int32), KVn σ (K σ y0 y1)) (σ : RS) (x2 : Int32) (x3 : Int32) : KVn σ (b_X12_patch_2 N K σ x2 x3) := by
  unfold b_X12_patch_2
  exact (kvn_ite (kvn_some ⟨fun _ => rfl, rfl⟩) (kvn_ite (kvn_st ⟨fun _ => rfl, rfl⟩ (hK (RS.setA σ 22 ((x3 : Int32).toNatClampNeg) x2) x2 (σ.a 22 ((x3 : Int32).toNatClampNeg)))) kvn_none))
theorem kln_f_X12_patch_2 (N : Nat) : ∀ (n : Nat) (σ : RS) (y0 : Int32) (y1 : Int32), KVn σ (f_X12_patch_2 N n σ y0 y1)
  | 0, _, _, _ => kvn_none
  | n+1, σ, y0, y1 => kln_b_X12_patch_2 N (f_X12_patch_2 N n) (fun σ y0 y1 => kln_f_X12_patch_2 N n σ y0 y1) σ y0 y1
theorem kln_f_X12_patch (N : Nat) (σ : RS) (x1 : Int32) (x2 : Int32) : KVn σ (f_X12_patch N σ x1 x2) := by
  unfold f_X12_patch
  exact (kvn_st ⟨fun _ => rfl, rfl⟩ (kln_f_X12_patch_2 N N σ x2 x1))
theorem kln_f_X12_goes (N : Nat) (σ : RS) (x1 : Int32) (x2 : Int32) : KVn σ (f_X12_goes N σ x1 x2) := by
  unfold f_X12_goes
  exact (kvn_ite (kvn_ite (kvn_some ⟨fun _ => rfl, rfl⟩) kvn_none) (kvn_ite (kvn_some ⟨fun _ => rfl, rfl⟩) kvn_none))
theorem kln_f_X12_pend_22 (N : Nat) (σ : RS) (x1 : Int32) (x2 : Int32) : KVn σ (f_X12_pend_22 N σ x1 x2) := by
  unfold f_X12_pend_22
  exact (kvn_bindv (kvn_st ⟨fun _ => rfl, rfl⟩ (kln_f_X12_goes N σ x1 x2)) (fun p2 => (kvn_some ⟨fun _ => rfl, rfl⟩)))
theorem kln_f_X12_pend (N : Nat) (σ : RS) (x1 : Int32) (x2 : Int32) : KVn σ (f_X12_pend N σ x1 x2) := by
  unfold f_X12_pend
  exact (kvn_ite (kvn_st ⟨fun _ => rfl, rfl⟩ (kln_f_X12_pend_22 N σ x1 x2)) (kvn_ite (kvn_ite (kvn_ite (kvn_some ⟨fun _ => rfl, rfl⟩) kvn_none) (kvn_st ⟨fun _ => rfl, rfl⟩ (kln_f_X12_pend_22 N σ x1 x2))) kvn_none))
theorem kln_b_X12_resolve_2 (N : Nat) (K : RS → Int32 → Int32 → Int32 → Option (RS)) (hK : ∀ (σ : RS) (y0 : Int32) (y1 : Int32) (y2 : Int32), KVn σ (K σ y0 y1 y2)) (σ : RS) (x1 : Int32) (x2 : Int32) (x3 : Int32) : KVn σ (b_X12_resolve_2 N K σ x1 x2 x3) := by
  unfold b_X12_resolve_2
  exact (kvn_ite (kvn_some ⟨fun _ => rfl, rfl⟩) (kvn_ite (kvn_ite (kvn_ite (kvn_st ⟨fun _ => rfl, rfl⟩ (hK (RS.setA σ 62 ((x3 : Int32).toNatClampNeg) (-1)) x1 x2 (x3 + 1))) (kvn_ite (kvn_bindv (kvn_st ⟨fun _ => rfl, rfl⟩ (kln_f_X12_goes N (RS.setA σ 62 ((x3 : Int32).toNatClampNeg) (-1)) (σ.a 60 ((x3 : Int32).toNatClampNeg)) (σ.a 61 ((x3 : Int32).toNatClampNeg)))) (fun p8 => (kvn_st ⟨fun _ => rfl, rfl⟩ (hK p8 x1 x2 (x3 + 1))))) (kvn_ite (kvn_ite (kvn_bindv (kvn_st ⟨fun _ => rfl, rfl⟩ (kln_f_X12_goes N (RS.setA σ 62 ((x3 : Int32).toNatClampNeg) (-1)) (σ.a 60 ((x3 : Int32).toNatClampNeg)) (σ.a 61 ((x3 : Int32).toNatClampNeg)))) (fun p13 => (kvn_st ⟨fun _ => rfl, rfl⟩ (hK p13 x1 x2 (x3 + 1))))) (kvn_st ⟨fun _ => rfl, rfl⟩ (hK (RS.setA σ 62 ((x3 : Int32).toNatClampNeg) (σ.a 57 ((((σ.i 56) - 1) : Int32).toNatClampNeg))) x1 x2 (x3 + 1)))) kvn_none))) (kvn_st ⟨fun _ => rfl, rfl⟩ (hK σ x1 x2 (x3 + 1)))) kvn_none))
theorem kln_f_X12_resolve_2 (N : Nat) : ∀ (n : Nat) (σ : RS) (y0 : Int32) (y1 : Int32) (y2 : Int32), KVn σ (f_X12_resolve_2 N n σ y0 y1 y2)
  | 0, _, _, _, _ => kvn_none
  | n+1, σ, y0, y1, y2 => kln_b_X12_resolve_2 N (f_X12_resolve_2 N n) (fun σ y0 y1 y2 => kln_f_X12_resolve_2 N n σ y0 y1 y2) σ y0 y1 y2
theorem kln_f_X12_resolve (N : Nat) (σ : RS) (x1 : Int32) (x2 : Int32) : KVn σ (f_X12_resolve N σ x1 x2) := by
  unfold f_X12_resolve
  exact (kvn_st ⟨fun _ => rfl, rfl⟩ (kln_f_X12_resolve_2 N N σ x1 x2 0))
theorem kln_f_X12_push (N : Nat) (σ : RS) (x1 : Int32) : KVn σ (f_X12_push N σ x1) := by
  unfold f_X12_push
  exact (kvn_ite (kvn_some ⟨fun _ => rfl, rfl⟩) kvn_none)
theorem kln_f_X12_then (N : Nat) (σ : RS) (x1 : Int32) (x2 : Int32) : KVn σ (f_X12_then N σ x1 x2) := by
  unfold f_X12_then
  exact (kvn_ite (kvn_bindv (kvn_st ⟨fun _ => rfl, rfl⟩ (kln_f_X12_push N (RS.setA σ 65 (((σ.i 63) : Int32).toNatClampNeg) x1) x2)) (fun p2 => (kvn_some ⟨fun _ => rfl, rfl⟩))) kvn_none)
theorem kln_f_X12_body_32 (N : Nat) (σ : RS) (x1 : Int32) : KVn σ (f_X12_body_32 N σ x1) := by
  unfold f_X12_body_32
  exact (kvn_bindv (kvn_st ⟨fun _ => rfl, rfl⟩ (kln_f_X12_then N σ x1 2)) (fun p5 => (kvn_some ⟨fun _ => rfl, rfl⟩)))
theorem kln_f_X12_body (N : Nat) (σ : RS) (x1 : Int32) : KVn σ (f_X12_body N σ x1) := by
  unfold f_X12_body
  exact (kvn_ite (kvn_bind (kln_st ⟨fun _ => rfl, rfl⟩ (kln_f_X12_can N σ 0)) (fun p2 => (kvn_ite (kvn_some ⟨fun _ => rfl, rfl⟩) (kvn_st ⟨fun _ => rfl, rfl⟩ (kln_f_X12_body_32 N p2.2 x1))))) (kvn_ite (kvn_bind (kln_st ⟨fun _ => rfl, rfl⟩ (kln_f_X12_can N σ 0)) (fun p8 => (kvn_ite (kvn_some ⟨fun _ => rfl, rfl⟩) (kvn_st ⟨fun _ => rfl, rfl⟩ (kln_f_X12_body_32 N p8.2 x1))))) (kvn_bind (kln_st ⟨fun _ => rfl, rfl⟩ (kln_f_X12_can N σ 1)) (fun p11 => (kvn_ite (kvn_some ⟨fun _ => rfl, rfl⟩) (kvn_st ⟨fun _ => rfl, rfl⟩ (kln_f_X12_body_32 N p11.2 x1)))))))
theorem kln_f_X12_over (N : Nat) (σ : RS) (x1 : Int32) : KVn σ (f_X12_over N σ x1) := by
  unfold f_X12_over
  exact (kvn_ite (kvn_some ⟨fun _ => rfl, rfl⟩) kvn_none)
theorem kln_f_X12_list_73 (N : Nat) (σ : RS) (x1 : Int32) : KVn σ (f_X12_list_73 N σ x1) := by
  unfold f_X12_list_73
  exact (kvn_ite (kvn_ite (kvn_bindv (kvn_st ⟨fun _ => rfl, rfl⟩ (kln_f_X12_over N σ 1)) (fun p9 => (kvn_some ⟨fun _ => rfl, rfl⟩))) (kvn_bindv (kvn_st ⟨fun _ => rfl, rfl⟩ (kln_f_X12_over N σ 0)) (fun p7 => (kvn_some ⟨fun _ => rfl, rfl⟩)))) kvn_none)
theorem kln_f_X12_list_110 (N : Nat) (σ : RS) : KVn σ (f_X12_list_110 N σ) := by
  unfold f_X12_list_110
  exact (kvn_bindv (kvn_st ⟨fun _ => rfl, rfl⟩ (kln_f_X12_then N σ 1 2)) (fun p16 => (kvn_some ⟨fun _ => rfl, rfl⟩)))
theorem kln_f_X12_list_37 (N : Nat) (σ : RS) (x1 : Int32) : KVn σ (f_X12_list_37 N σ x1) := by
  unfold f_X12_list_37
  exact (kvn_ite (kvn_st ⟨fun _ => rfl, rfl⟩ (kln_f_X12_list_73 N σ x1)) (kvn_ite (kvn_st ⟨fun _ => rfl, rfl⟩ (kln_f_X12_list_73 N σ x1)) (kvn_ite (kvn_st ⟨fun _ => rfl, rfl⟩ (kln_f_X12_list_73 N σ x1)) (kvn_ite (kvn_st ⟨fun _ => rfl, rfl⟩ (kln_f_X12_list_73 N σ x1)) (kvn_ite (kvn_ite (kvn_bindv (kvn_st ⟨fun _ => rfl, rfl⟩ (kln_f_X12_note N σ (σ.i 11))) (fun p18 => (kvn_st ⟨fun _ => rfl, rfl⟩ (kln_f_X12_list_110 N p18)))) (kvn_st ⟨fun _ => rfl, rfl⟩ (kln_f_X12_list_110 N σ))) kvn_none)))))
theorem kln_f_X12_list (N : Nat) (σ : RS) (x1 : Int32) : KVn σ (f_X12_list N σ x1) := by
  unfold f_X12_list
  exact (kvn_ite (kvn_ite (kvn_st ⟨fun _ => rfl, rfl⟩ (kln_f_X12_list_37 N (RS.setA σ 66 ((x1 : Int32).toNatClampNeg) 1) x1)) (kvn_ite (kvn_st ⟨fun _ => rfl, rfl⟩ (kln_f_X12_list_37 N (RS.setA σ 66 ((x1 : Int32).toNatClampNeg) 0) x1)) (kvn_st ⟨fun _ => rfl, rfl⟩ (kln_f_X12_list_37 N (RS.setA σ 66 ((x1 : Int32).toNatClampNeg) 1) x1)))) kvn_none)
theorem kln_f_X12_jump_317 (N : Nat) (σ : RS) : KVn σ (f_X12_jump_317 N σ) := by
  unfold f_X12_jump_317
  exact (kvn_bind (kln_st ⟨fun _ => rfl, rfl⟩ (kln_f_X12_need N σ 59)) (fun p18 => (kvn_some ⟨fun _ => rfl, rfl⟩)))
theorem kln_f_X12_jump_302 (N : Nat) (σ : RS) (x1 : Int32) (x3 : Int32) (x4 : Int32) : KVn σ (f_X12_jump_302 N σ x1 x3 x4) := by
  unfold f_X12_jump_302
  exact (kvn_bindv (kvn_st ⟨fun _ => rfl, rfl⟩ (kln_f_X12_pend N σ x4 x1)) (fun p15 => (kvn_ite (kvn_st ⟨fun _ => rfl, rfl⟩ (kln_f_X12_jump_317 N p15)) (kvn_bindv (kvn_st ⟨fun _ => rfl, rfl⟩ (kln_f_X12_next N p15)) (fun p20 => (kvn_st ⟨fun _ => rfl, rfl⟩ (kln_f_X12_jump_317 N p20)))))))
theorem kln_f_X12_jump_263 (N : Nat) (σ : RS) (x1 : Int32) (x3 : Int32) (x4 : Int32) (x5 : Int32) : KVn σ (f_X12_jump_263 N σ x1 x3 x4 x5) := by
  unfold f_X12_jump_263
  exact (kvn_ite (kvn_ite (kvn_ite (kvn_st ⟨fun _ => rfl, rfl⟩ (kln_f_X12_jump_302 N (RS.setA (RS.setA σ 23 ((x5 : Int32).toNatClampNeg) (σ.a 47 ((x4 : Int32).toNatClampNeg))) 49 ((x4 : Int32).toNatClampNeg) x5) x1 x3 x4)) (kvn_st ⟨fun _ => rfl, rfl⟩ (kln_f_X12_jump_302 N (RS.setA (RS.setA σ 23 ((x5 : Int32).toNatClampNeg) (σ.a 47 ((x4 : Int32).toNatClampNeg))) 48 ((x4 : Int32).toNatClampNeg) x5) x1 x3 x4))) kvn_none) kvn_none)
theorem kln_f_X12_jump_234 (N : Nat) (σ : RS) (x1 : Int32) (x3 : Int32) (x4 : Int32) : KVn σ (f_X12_jump_234 N σ x1 x3 x4) := by
  unfold f_X12_jump_234
  exact (kvn_ite (kvn_ite (kvn_bind (kln_st ⟨fun _ => rfl, rfl⟩ (kln_f_X12_emit N σ 36 (σ.a 49 ((x4 : Int32).toNatClampNeg)))) (fun p10 => (kvn_st ⟨fun _ => rfl, rfl⟩ (kln_f_X12_jump_263 N p10.2 x1 x3 x4 p10.1)))) kvn_none) (kvn_ite (kvn_bind (kln_st ⟨fun _ => rfl, rfl⟩ (kln_f_X12_emit N σ 36 (σ.a 48 ((x4 : Int32).toNatClampNeg)))) (fun p23 => (kvn_st ⟨fun _ => rfl, rfl⟩ (kln_f_X12_jump_263 N p23.2 x1 x3 x4 p23.1)))) kvn_none))
theorem kln_f_X12_jump_171 (N : Nat) (σ : RS) (x1 : Int32) (x2 : Int32) (x3 : Int32) (x4 : Int32) : KVn σ (f_X12_jump_171 N σ x1 x2 x3 x4) := by
  unfold f_X12_jump_171
  exact (kvn_ite (kvn_ite (kvn_st ⟨fun _ => rfl, rfl⟩ (kln_f_X12_jump_234 N σ x1 x3 x4)) (kvn_ite (kvn_ite (kvn_ite (kvn_st ⟨fun _ => rfl, rfl⟩ (kln_f_X12_jump_234 N σ x1 x3 (σ.a 46 ((x4 : Int32).toNatClampNeg)))) (kvn_bindv (kvn_st ⟨fun _ => rfl, rfl⟩ (kln_f_X12_fail N σ 5 (σ.i 11))) (fun p28 => (kvn_some ⟨fun _ => rfl, rfl⟩)))) kvn_none) (kvn_st ⟨fun _ => rfl, rfl⟩ (kln_f_X12_jump_234 N σ x1 x3 x4)))) (kvn_ite (kvn_bindv (kvn_st ⟨fun _ => rfl, rfl⟩ (kln_f_X12_fail N σ 5 x2)) (fun p32 => (kvn_some ⟨fun _ => rfl, rfl⟩))) (kvn_bindv (kvn_st ⟨fun _ => rfl, rfl⟩ (kln_f_X12_fail N σ 3 (σ.i 11))) (fun p35 => (kvn_some ⟨fun _ => rfl, rfl⟩)))))
theorem kln_b_X12_jump_60 (N : Nat) (K : RS → Int32 → Int32 → Int32 → Int32 → Int32 → Option (RS)) (hK : ∀ (σ : RS) (y0 : Int32) (y1 : Int32) (y2 : Int32) (y3 : Int32) (y4 : Int32), KVn σ (K σ y0 y1 y2 y3 y4)) (σ : RS) (x1 : Int32) (x2 : Int32) (x3 : Int32) (x4 : Int32) (x5 : Int32) : KVn σ (b_X12_jump_60 N K σ x1 x2 x3 x4 x5) := by
  unfold b_X12_jump_60
  exact (kvn_ite (kvn_st ⟨fun _ => rfl, rfl⟩ (kln_f_X12_jump_171 N σ x1 x2 x3 x4)) (kvn_ite (kvn_ite (kvn_st ⟨fun _ => rfl, rfl⟩ (kln_f_X12_jump_171 N σ x1 x2 x3 x4)) (kvn_ite (kvn_st ⟨fun _ => rfl, rfl⟩ (kln_f_X12_jump_171 N σ x1 x2 x3 x4)) (kvn_ite (kvn_ite (kvn_st ⟨fun _ => rfl, rfl⟩ (hK σ x1 x2 x3 x5 (x5 + (-1)))) (kvn_ite (kvn_st ⟨fun _ => rfl, rfl⟩ (hK σ x1 x2 x3 x4 (x5 + (-1)))) (kvn_ite (kvn_st ⟨fun _ => rfl, rfl⟩ (hK σ x1 x2 x3 x5 (x5 + (-1)))) (kvn_st ⟨fun _ => rfl, rfl⟩ (hK σ x1 x2 x3 x4 (x5 + (-1))))))) (kvn_ite (kvn_ite (kvn_st ⟨fun _ => rfl, rfl⟩ (hK σ x1 x2 x3 x5 (x5 + (-1)))) (kvn_st ⟨fun _ => rfl, rfl⟩ (hK σ x1 x2 x3 x4 (x5 + (-1))))) (kvn_st ⟨fun _ => rfl, rfl⟩ (hK σ x1 x2 x3 x4 (x5 + (-1)))))))) kvn_none))
theorem kln_f_X12_jump_60 (N : Nat) : ∀ (n : Nat) (σ : RS) (y0 : Int32) (y1 : Int32) (y2 : Int32) (y3 : Int32) (y4 : Int32), KVn σ (f_X12_jump_60 N n σ y0 y1 y2 y3 y4)
  | 0, _, _, _, _, _, _ => kvn_none
  | n+1, σ, y0, y1, y2, y3, y4 => kln_b_X12_jump_60 N (f_X12_jump_60 N n) (fun σ y0 y1 y2 y3 y4 => kln_f_X12_jump_60 N n σ y0 y1 y2 y3 y4) σ y0 y1 y2 y3 y4
theorem kln_f_X12_jump_49 (N : Nat) (σ : RS) (x1 : Int32) (x2 : Int32) (x3 : Int32) : KVn σ (f_X12_jump_49 N σ x1 x2 x3) := by
  unfold f_X12_jump_49
  exact (kvn_st ⟨fun _ => rfl, rfl⟩ (kln_f_X12_jump_60 N N σ x1 x2 x3 (-1) ((σ.i 43) - 1)))
theorem kln_f_X12_jump_16 (N : Nat) (σ : RS) (x1 : Int32) : KVn σ (f_X12_jump_16 N σ x1) := by
  unfold f_X12_jump_16
  exact (kvn_bindv (kvn_st ⟨fun _ => rfl, rfl⟩ (kln_f_X12_next N (RS.setI σ 55 ((σ.i 55) + 1)))) (fun p2 => (kvn_ite (kvn_st ⟨fun _ => rfl, rfl⟩ (kln_f_X12_jump_49 N p2 x1 (σ.i 11) 1)) (kvn_st ⟨fun _ => rfl, rfl⟩ (kln_f_X12_jump_49 N p2 x1 (σ.i 11) 0)))))
theorem kln_f_X12_jump (N : Nat) (σ : RS) : KVn σ (f_X12_jump N σ) := by
  unfold f_X12_jump
  exact (kvn_ite (kvn_st ⟨fun _ => rfl, rfl⟩ (kln_f_X12_jump_16 N σ 1)) (kvn_st ⟨fun _ => rfl, rfl⟩ (kln_f_X12_jump_16 N σ 0)))
theorem kln_f_X12_stat_309 (N : Nat) (σ : RS) : KVn σ (f_X12_stat_309 N σ) := by
  unfold f_X12_stat_309
  exact (kvn_bind (kln_st ⟨fun _ => rfl, rfl⟩ (kln_f_X12_emit N σ 1 0)) (fun p10 => (kvn_ite (kvn_bindv (kvn_st ⟨fun _ => rfl, rfl⟩ (kln_f_X12_next N p10.2)) (fun p17 => (kvn_bindv (kvn_st ⟨fun _ => rfl, rfl⟩ (kln_f_X12_over N p17 1)) (fun p19 => (kvn_some ⟨fun _ => rfl, rfl⟩))))) (kvn_bindv (kvn_st ⟨fun _ => rfl, rfl⟩ (kln_f_X12_jump N p10.2)) (fun p13 => (kvn_bindv (kvn_st ⟨fun _ => rfl, rfl⟩ (kln_f_X12_over N p13 0)) (fun p15 => (kvn_some ⟨fun _ => rfl, rfl⟩))))))))
theorem kln_f_X12_stat_240 (N : Nat) (σ : RS) (x1 : Int32) : KVn σ (f_X12_stat_240 N σ x1) := by
  unfold f_X12_stat_240
  exact (kvn_ite (kvn_ite (kvn_ite (kvn_bind (kln_st ⟨fun _ => rfl, rfl⟩ (kln_f_X12_can N σ 1)) (fun p7 => (kvn_ite (kvn_some ⟨fun _ => rfl, rfl⟩) (kvn_st ⟨fun _ => rfl, rfl⟩ (kln_f_X12_stat_309 N p7.2))))) (kvn_ite (kvn_bind (kln_st ⟨fun _ => rfl, rfl⟩ (kln_f_X12_can N σ 1)) (fun p22 => (kvn_ite (kvn_some ⟨fun _ => rfl, rfl⟩) (kvn_st ⟨fun _ => rfl, rfl⟩ (kln_f_X12_stat_309 N p22.2))))) (kvn_ite (kvn_bind (kln_st ⟨fun _ => rfl, rfl⟩ (kln_f_X12_can N σ 1)) (fun p29 => (kvn_ite (kvn_some ⟨fun _ => rfl, rfl⟩) (kvn_st ⟨fun _ => rfl, rfl⟩ (kln_f_X12_stat_309 N p29.2))))) (kvn_bind (kln_st ⟨fun _ => rfl, rfl⟩ (kln_f_X12_can N σ 0)) (fun p26 => (kvn_ite (kvn_some ⟨fun _ => rfl, rfl⟩) (kvn_st ⟨fun _ => rfl, rfl⟩ (kln_f_X12_stat_309 N p26.2)))))))) (kvn_ite (kvn_some ⟨fun _ => rfl, rfl⟩) (kvn_bind (kln_st ⟨fun _ => rfl, rfl⟩ (kln_f_X12_emit N σ 1 0)) (fun p33 => (kvn_some ⟨fun _ => rfl, rfl⟩))))) kvn_none)
theorem kln_f_X12_stat (N : Nat) (σ : RS) (x1 : Int32) : KVn σ (f_X12_stat N σ x1) := by
  unfold f_X12_stat
  exact (kvn_ite (kvn_ite (kvn_some ⟨fun _ => rfl, rfl⟩) kvn_none) (kvn_ite (kvn_ite (kvn_st ⟨fun _ => rfl, rfl⟩ (kln_f_X12_stat_240 N (RS.setA (RS.setI σ 53 ((σ.i 53) + 1)) 64 ((x1 : Int32).toNatClampNeg) 4) x1)) kvn_none) (kvn_ite (kvn_ite (kvn_st ⟨fun _ => rfl, rfl⟩ (kln_f_X12_stat_240 N (RS.setA (RS.setI σ 53 ((σ.i 53) + 1)) 64 ((x1 : Int32).toNatClampNeg) 4) x1)) kvn_none) (kvn_ite (kvn_ite (kvn_st ⟨fun _ => rfl, rfl⟩ (kln_f_X12_stat_240 N (RS.setA (RS.setI σ 53 ((σ.i 53) + 1)) 64 ((x1 : Int32).toNatClampNeg) 5) x1)) kvn_none) (kvn_ite (kvn_ite (kvn_st ⟨fun _ => rfl, rfl⟩ (kln_f_X12_stat_240 N (RS.setA (RS.setI σ 53 ((σ.i 53) + 1)) 64 ((x1 : Int32).toNatClampNeg) 6) x1)) kvn_none) (kvn_ite (kvn_ite (kvn_st ⟨fun _ => rfl, rfl⟩ (kln_f_X12_stat_240 N (RS.setA (RS.setI σ 53 ((σ.i 53) + 1)) 64 ((x1 : Int32).toNatClampNeg) 6) x1)) kvn_none) (kvn_ite (kvn_ite (kvn_st ⟨fun _ => rfl, rfl⟩ (kln_f_X12_stat_240 N (RS.setA (RS.setI σ 53 ((σ.i 53) + 1)) 64 ((x1 : Int32).toNatClampNeg) 6) x1)) kvn_none) (kvn_ite (kvn_ite (kvn_st ⟨fun _ => rfl, rfl⟩ (kln_f_X12_stat_240 N (RS.setA (RS.setI σ 53 ((σ.i 53) + 1)) 64 ((x1 : Int32).toNatClampNeg) 7) x1)) kvn_none) (kvn_ite (kvn_ite (kvn_st ⟨fun _ => rfl, rfl⟩ (kln_f_X12_stat_240 N (RS.setA (RS.setI σ 53 ((σ.i 53) + 1)) 64 ((x1 : Int32).toNatClampNeg) 8) x1)) kvn_none) (kvn_ite (kvn_ite (kvn_st ⟨fun _ => rfl, rfl⟩ (kln_f_X12_stat_240 N (RS.setA (RS.setI σ 53 ((σ.i 53) + 1)) 64 ((x1 : Int32).toNatClampNeg) 9) x1)) kvn_none) (kvn_ite (kvn_ite (kvn_st ⟨fun _ => rfl, rfl⟩ (kln_f_X12_stat_240 N (RS.setA (RS.setI σ 53 ((σ.i 53) + 1)) 64 ((x1 : Int32).toNatClampNeg) 10) x1)) kvn_none) (kvn_ite (kvn_ite (kvn_st ⟨fun _ => rfl, rfl⟩ (kln_f_X12_stat_240 N (RS.setA (RS.setI σ 53 ((σ.i 53) + 1)) 64 ((x1 : Int32).toNatClampNeg) 11) x1)) kvn_none) (kvn_ite (kvn_ite (kvn_st ⟨fun _ => rfl, rfl⟩ (kln_f_X12_stat_240 N (RS.setA (RS.setI σ 53 ((σ.i 53) + 1)) 64 ((x1 : Int32).toNatClampNeg) 12) x1)) kvn_none) (kvn_ite (kvn_ite (kvn_st ⟨fun _ => rfl, rfl⟩ (kln_f_X12_stat_240 N (RS.setA (RS.setI σ 53 ((σ.i 53) + 1)) 64 ((x1 : Int32).toNatClampNeg) 13) x1)) kvn_none) (kvn_ite (kvn_ite (kvn_st ⟨fun _ => rfl, rfl⟩ (kln_f_X12_stat_240 N (RS.setA (RS.setI σ 53 ((σ.i 53) + 1)) 64 ((x1 : Int32).toNatClampNeg) 14) x1)) kvn_none) (kvn_ite (kvn_ite (kvn_st ⟨fun _ => rfl, rfl⟩ (kln_f_X12_stat_240 N (RS.setA (RS.setI σ 53 ((σ.i 53) + 1)) 64 ((x1 : Int32).toNatClampNeg) 15) x1)) kvn_none) (kvn_ite (kvn_st ⟨fun _ => rfl, rfl⟩ (kln_f_X12_stat_240 N (RS.setA (RS.setI σ 53 ((σ.i 53) + 1)) 64 ((x1 : Int32).toNatClampNeg) 2) x1)) kvn_none)))))))))))))))))
theorem kln_f_X12_block (N : Nat) (σ : RS) (x1 : Int32) : KVn σ (f_X12_block N σ x1) := by
  unfold f_X12_block
  exact (kvn_ite (kvn_ite (kvn_bind (kln_st ⟨fun _ => rfl, rfl⟩ (kln_f_X12_open N σ 123)) (fun p5 => (kvn_bindv (kvn_st ⟨fun _ => rfl, rfl⟩ (kln_f_X12_then N (RS.setA p5.2 66 ((x1 : Int32).toNatClampNeg) (p5.2.i 38)) 1 1)) (fun p7 => (kvn_some ⟨fun _ => rfl, rfl⟩))))) (kvn_bind (kln_st ⟨fun _ => rfl, rfl⟩ (kln_f_X12_shut N σ 125)) (fun p3 => (kvn_some ⟨fun _ => rfl, rfl⟩)))) kvn_none)
theorem kln_f_X12_telling_22 (N : Nat) (σ : RS) (x1 : Int32) : KRn σ (f_X12_telling_22 N σ x1) := by
  unfold f_X12_telling_22
  exact (kln_bind (kln_st ⟨fun _ => rfl, rfl⟩ (kln_f_X12_seenAs N σ σ.l)) (fun p5 => (kln_ite (kln_ite (kln_bindv (kvn_st ⟨fun _ => rfl, rfl⟩ (kln_f_X12_next N (RS.setB (RS.setI p5.2 54 ((p5.2.i 54) + 1)) 74 ((x1 : Int32).toNatClampNeg) p5.2.l))) (fun p9 => (kln_some ⟨fun _ => rfl, rfl⟩))) kln_none) (kln_bindv (kvn_st ⟨fun _ => rfl, rfl⟩ (kln_f_X12_fail N p5.2 4 (p5.2.i 11))) (fun p11 => (kln_some ⟨fun _ => rfl, rfl⟩))))))
theorem kln_f_X12_telling_20 (N : Nat) (σ : RS) : KRn σ (f_X12_telling_20 N σ) := by
  unfold f_X12_telling_20
  exact (kln_some ⟨fun _ => rfl, rfl⟩)
theorem kln_f_X12_telling (N : Nat) (σ : RS) (x1 : Int32) : KRn σ (f_X12_telling N σ x1) := by
  unfold f_X12_telling
  exact (kln_ite (kln_bind (kln_st ⟨fun _ => rfl, rfl⟩ (kln_f_X12_can N σ 1)) (fun p13 => (kln_ite (kln_st ⟨fun _ => rfl, rfl⟩ (kln_f_X12_telling_20 N p13.2)) (kln_st ⟨fun _ => rfl, rfl⟩ (kln_f_X12_telling_22 N p13.2 x1))))) (kln_bind (kln_st ⟨fun _ => rfl, rfl⟩ (kln_f_X12_can N σ 0)) (fun p2 => (kln_ite (kln_st ⟨fun _ => rfl, rfl⟩ (kln_f_X12_telling_20 N p2.2)) (kln_st ⟨fun _ => rfl, rfl⟩ (kln_f_X12_telling_22 N p2.2 x1))))))
theorem kln_f_X12_tell (N : Nat) (σ : RS) (x1 : Int32) : KVn σ (f_X12_tell N σ x1) := by
  unfold f_X12_tell
  exact (kvn_ite (kvn_ite (kvn_bindv (kvn_st ⟨fun _ => rfl, rfl⟩ (kln_f_X12_next N σ)) (fun p11 => (kvn_ite (kvn_bind (kln_st ⟨fun _ => rfl, rfl⟩ (kln_f_X12_telling N p11 x1)) (fun p14 => (kvn_ite (kvn_some ⟨fun _ => rfl, rfl⟩) (kvn_bind (kln_st ⟨fun _ => rfl, rfl⟩ (kln_f_X12_need N p14.2 61)) (fun p17 => (kvn_bindv (kvn_st ⟨fun _ => rfl, rfl⟩ (kln_f_X12_then N p17.2 1 16)) (fun p19 => (kvn_some ⟨fun _ => rfl, rfl⟩)))))))) (kvn_some ⟨fun _ => rfl, rfl⟩)))) (kvn_bind (kln_st ⟨fun _ => rfl, rfl⟩ (kln_f_X12_see N σ (σ.b 74 ((x1 : Int32).toNatClampNeg)) 0)) (fun p3 => (kvn_bind (kln_st ⟨fun _ => rfl, rfl⟩ (kln_f_X12_emit N p3.2 5 p3.1)) (fun p5 => (kvn_bind (kln_st ⟨fun _ => rfl, rfl⟩ (kln_f_X12_need N p5.2 59)) (fun p7 => (kvn_bindv (kvn_st ⟨fun _ => rfl, rfl⟩ (kln_f_X12_over N p7.2 1)) (fun p9 => (kvn_some ⟨fun _ => rfl, rfl⟩)))))))))) kvn_none)
theorem kln_f_X12_label_188 (N : Nat) (σ : RS) : KVn σ (f_X12_label_188 N σ) := by
  unfold f_X12_label_188
  exact (kvn_bindv (kvn_st ⟨fun _ => rfl, rfl⟩ (kln_f_X12_body N σ 1)) (fun p10 => (kvn_some ⟨fun _ => rfl, rfl⟩)))
theorem kln_f_X12_label_168 (N : Nat) (σ : RS) : KVn σ (f_X12_label_168 N σ) := by
  unfold f_X12_label_168
  exact (kvn_st ⟨fun _ => rfl, rfl⟩ (kln_f_X12_label_188 N σ))
theorem kln_b_X12_label_125 (N : Nat) (K : RS → Int32 → Option (RS)) (hK : ∀ (σ : RS) (y0 : Int32), KVn σ (K σ y0)) (σ : RS) (x6 : Int32) : KVn σ (b_X12_label_125 N K σ x6) := by
  unfold b_X12_label_125
  exact (kvn_ite (kvn_st ⟨fun _ => rfl, rfl⟩ (kln_f_X12_label_168 N σ)) (kvn_ite (kvn_ite (kvn_ite (kvn_st ⟨fun _ => rfl, rfl⟩ (hK (RS.setA σ 46 ((x6 : Int32).toNatClampNeg) (-3)) (x6 + (-1)))) (kvn_st ⟨fun _ => rfl, rfl⟩ (kln_f_X12_label_168 N σ))) (kvn_st ⟨fun _ => rfl, rfl⟩ (kln_f_X12_label_168 N σ))) kvn_none))
theorem kln_f_X12_label_125 (N : Nat) : ∀ (n : Nat) (σ : RS) (y0 : Int32), KVn σ (f_X12_label_125 N n σ y0)
  | 0, _, _ => kvn_none
  | n+1, σ, y0 => kln_b_X12_label_125 N (f_X12_label_125 N n) (fun σ y0 => kln_f_X12_label_125 N n σ y0) σ y0
theorem kln_f_X12_label_110 (N : Nat) (σ : RS) (x5 : Int32) : KVn σ (f_X12_label_110 N σ x5) := by
  unfold f_X12_label_110
  exact (kvn_ite (kvn_st ⟨fun _ => rfl, rfl⟩ (kln_f_X12_label_125 N N (RS.setA σ 46 ((x5 : Int32).toNatClampNeg) (-3)) (x5 - 1))) kvn_none)
theorem kln_f_X12_label_60 (N : Nat) (σ : RS) (x1 : Int32) (x2 : Int64) : KVn σ (f_X12_label_60 N σ x1 x2) := by
  unfold f_X12_label_60
  exact (kvn_bind (kln_st ⟨fun _ => rfl, rfl⟩ (kln_f_X12_goal N σ 2 x2)) (fun p2 => (kvn_ite (kvn_bindv (kvn_st ⟨fun _ => rfl, rfl⟩ (kln_f_X12_next N (RS.setA p2.2 66 ((x1 : Int32).toNatClampNeg) p2.1))) (fun p5 => (kvn_ite (kvn_st ⟨fun _ => rfl, rfl⟩ (kln_f_X12_label_110 N p5 p2.1)) (kvn_ite (kvn_st ⟨fun _ => rfl, rfl⟩ (kln_f_X12_label_110 N p5 p2.1)) (kvn_ite (kvn_st ⟨fun _ => rfl, rfl⟩ (kln_f_X12_label_110 N p5 p2.1)) (kvn_ite (kvn_ite (kvn_st ⟨fun _ => rfl, rfl⟩ (kln_f_X12_label_188 N (RS.setA p5 46 ((p2.1 : Int32).toNatClampNeg) (-2)))) kvn_none) (kvn_st ⟨fun _ => rfl, rfl⟩ (kln_f_X12_label_188 N p5)))))))) kvn_none)))
theorem kln_b_X12_label_8 (N : Nat) (K : RS → Int32 → Int64 → Int32 → Int32 → Option (RS)) (hK : ∀ (σ : RS) (y0 : Int32) (y1 : Int64) (y2 : Int32) (y3 : Int32), KVn σ (K σ y0 y1 y2 y3)) (σ : RS) (x1 : Int32) (x2 : Int64) (x4 : Int32) (x5 : Int32) : KVn σ (b_X12_label_8 N K σ x1 x2 x4 x5) := by
  unfold b_X12_label_8
  exact (kvn_ite (kvn_st ⟨fun _ => rfl, rfl⟩ (kln_f_X12_label_60 N σ x1 x2)) (kvn_ite (kvn_ite (kvn_st ⟨fun _ => rfl, rfl⟩ (kln_f_X12_label_60 N σ x1 x2)) (kvn_ite (kvn_ite (kvn_bindv (kvn_st ⟨fun _ => rfl, rfl⟩ (kln_f_X12_fail N σ 4 x4)) (fun p23 => (kvn_st ⟨fun _ => rfl, rfl⟩ (hK p23 x1 x2 x4 (x5 + (-1)))))) (kvn_st ⟨fun _ => rfl, rfl⟩ (hK σ x1 x2 x4 (x5 + (-1))))) (kvn_st ⟨fun _ => rfl, rfl⟩ (hK σ x1 x2 x4 (x5 + (-1)))))) kvn_none))
theorem kln_f_X12_label_8 (N : Nat) : ∀ (n : Nat) (σ : RS) (y0 : Int32) (y1 : Int64) (y2 : Int32) (y3 : Int32), KVn σ (f_X12_label_8 N n σ y0 y1 y2 y3)
  | 0, _, _, _, _, _ => kvn_none
  | n+1, σ, y0, y1, y2, y3 => kln_b_X12_label_8 N (f_X12_label_8 N n) (fun σ y0 y1 y2 y3 => kln_f_X12_label_8 N n σ y0 y1 y2 y3) σ y0 y1 y2 y3
theorem kln_f_X12_label (N : Nat) (σ : RS) (x1 : Int32) (x2 : Int64) (x4 : Int32) : KVn σ (f_X12_label N σ x1 x2 x4) := by
  unfold f_X12_label
  exact (kvn_st ⟨fun _ => rfl, rfl⟩ (kln_f_X12_label_8 N N σ x1 x2 x4 ((σ.i 43) - 1)))
theorem kln_f_X12_got_22 (N : Nat) (σ : RS) (x3 : Int32) : KRn σ (f_X12_got_22 N σ x3) := by
  unfold f_X12_got_22
  exact (kln_bindv (kvn_st ⟨fun _ => rfl, rfl⟩ (kln_f_X12_fail N σ 3 x3)) (fun p4 => (kln_some ⟨fun _ => rfl, rfl⟩)))
theorem kln_f_X12_got (N : Nat) (σ : RS) (x1 : Int64) (x3 : Int32) : KRn σ (f_X12_got N σ x1 x3) := by
  unfold f_X12_got
  exact (kln_bind (kln_st ⟨fun _ => rfl, rfl⟩ (kln_f_X12_seenAs N σ x1)) (fun p1 => (kln_ite (kln_st ⟨fun _ => rfl, rfl⟩ (kln_f_X12_got_22 N p1.2 x3)) (kln_ite (kln_ite (kln_some ⟨fun _ => rfl, rfl⟩) (kln_st ⟨fun _ => rfl, rfl⟩ (kln_f_X12_got_22 N p1.2 x3))) kln_none))))
theorem kln_f_X12_named_207 (N : Nat) (σ : RS) (x1 : Int32) (x5 : Int32) (x6 : Int32) : KVn σ (f_X12_named_207 N σ x1 x5 x6) := by
  unfold f_X12_named_207
  exact (kvn_bindv (kvn_st ⟨fun _ => rfl, rfl⟩ (kln_f_X12_next N σ)) (fun p17 => (kvn_ite (kvn_ite (kvn_bindv (kvn_st ⟨fun _ => rfl, rfl⟩ (kln_f_X12_then N (RS.setA p17 66 ((x1 : Int32).toNatClampNeg) x5) 2 16)) (fun p21 => (kvn_some ⟨fun _ => rfl, rfl⟩))) kvn_none) (kvn_bind (kln_st ⟨fun _ => rfl, rfl⟩ (kln_f_X12_emit N p17 6 x5)) (fun p23 => (kvn_bind (kln_st ⟨fun _ => rfl, rfl⟩ (kln_f_X12_need N p23.2 59)) (fun p25 => (kvn_bindv (kvn_st ⟨fun _ => rfl, rfl⟩ (kln_f_X12_over N p25.2 1)) (fun p27 => (kvn_some ⟨fun _ => rfl, rfl⟩))))))))))
theorem kln_f_X12_named_183 (N : Nat) (σ : RS) (x1 : Int32) (x5 : Int32) : KVn σ (f_X12_named_183 N σ x1 x5) := by
  unfold f_X12_named_183
  exact (kvn_bind (kln_st ⟨fun _ => rfl, rfl⟩ (kln_f_X12_emit N σ 1 0)) (fun p14 => (kvn_ite (kvn_st ⟨fun _ => rfl, rfl⟩ (kln_f_X12_named_207 N p14.2 x1 x5 1)) (kvn_st ⟨fun _ => rfl, rfl⟩ (kln_f_X12_named_207 N p14.2 x1 x5 0)))))
theorem kln_f_X12_named (N : Nat) (σ : RS) (x1 : Int32) : KVn σ (f_X12_named N σ x1) := by
  unfold f_X12_named
  exact (kvn_ite (kvn_ite (kvn_ite (kvn_bindv (kvn_st ⟨fun _ => rfl, rfl⟩ (kln_f_X12_patch N σ (σ.a 48 (((σ.a 66 ((x1 : Int32).toNatClampNeg)) : Int32).toNatClampNeg)) (σ.i 20))) (fun p45 => (kvn_ite (kvn_ite (kvn_bindv (kvn_st ⟨fun _ => rfl, rfl⟩ (kln_f_X12_over N (RS.setI p45 43 ((p45.i 43) - 1)) 0)) (fun p51 => (kvn_some ⟨fun _ => rfl, rfl⟩))) (kvn_bindv (kvn_st ⟨fun _ => rfl, rfl⟩ (kln_f_X12_over N (RS.setI p45 43 ((p45.i 43) - 1)) 1)) (fun p53 => (kvn_some ⟨fun _ => rfl, rfl⟩)))) (kvn_bindv (kvn_st ⟨fun _ => rfl, rfl⟩ (kln_f_X12_over N (RS.setI p45 43 ((p45.i 43) - 1)) 1)) (fun p48 => (kvn_some ⟨fun _ => rfl, rfl⟩)))))) kvn_none) (kvn_ite (kvn_bind (kln_st ⟨fun _ => rfl, rfl⟩ (kln_f_X12_emit N σ 5 (σ.a 66 ((x1 : Int32).toNatClampNeg)))) (fun p38 => (kvn_bind (kln_st ⟨fun _ => rfl, rfl⟩ (kln_f_X12_need N p38.2 59)) (fun p40 => (kvn_bindv (kvn_st ⟨fun _ => rfl, rfl⟩ (kln_f_X12_over N p40.2 1)) (fun p42 => (kvn_some ⟨fun _ => rfl, rfl⟩))))))) (kvn_bindv (kvn_st ⟨fun _ => rfl, rfl⟩ (kln_f_X12_next N σ)) (fun p4 => (kvn_ite (kvn_bindv (kvn_st ⟨fun _ => rfl, rfl⟩ (kln_f_X12_label N p4 x1 σ.l (σ.i 11))) (fun p36 => (kvn_some ⟨fun _ => rfl, rfl⟩))) (kvn_bind (kln_st ⟨fun _ => rfl, rfl⟩ (kln_f_X12_got N p4 σ.l (σ.i 11))) (fun p7 => (kvn_ite (kvn_ite (kvn_bind (kln_st ⟨fun _ => rfl, rfl⟩ (kln_f_X12_can N p7.2 1)) (fun p11 => (kvn_ite (kvn_some ⟨fun _ => rfl, rfl⟩) (kvn_st ⟨fun _ => rfl, rfl⟩ (kln_f_X12_named_183 N p11.2 x1 p7.1))))) (kvn_ite (kvn_bind (kln_st ⟨fun _ => rfl, rfl⟩ (kln_f_X12_can N p7.2 1)) (fun p33 => (kvn_ite (kvn_some ⟨fun _ => rfl, rfl⟩) (kvn_st ⟨fun _ => rfl, rfl⟩ (kln_f_X12_named_183 N p33.2 x1 p7.1))))) (kvn_bind (kln_st ⟨fun _ => rfl, rfl⟩ (kln_f_X12_can N p7.2 0)) (fun p30 => (kvn_ite (kvn_some ⟨fun _ => rfl, rfl⟩) (kvn_st ⟨fun _ => rfl, rfl⟩ (kln_f_X12_named_183 N p30.2 x1 p7.1))))))) (kvn_some ⟨fun _ => rfl, rfl⟩))))))))) kvn_none)
theorem kln_b_X12_isInArms_2 (N : Nat) (K : RS → Int32 → Option (Int32 × RS)) (hK : ∀ (σ : RS) (y0 : Int32), KRn σ (K σ y0)) (σ : RS) (x1 : Int32) : KRn σ (b_X12_isInArms_2 N K σ x1) := by
  unfold b_X12_isInArms_2
  exact (kln_ite (kln_some ⟨fun _ => rfl, rfl⟩) (kln_ite (kln_ite (kln_some ⟨fun _ => rfl, rfl⟩) (kln_st ⟨fun _ => rfl, rfl⟩ (hK σ (x1 + 1)))) kln_none))
theorem kln_f_X12_isInArms_2 (N : Nat) : ∀ (n : Nat) (σ : RS) (y0 : Int32), KRn σ (f_X12_isInArms_2 N n σ y0)
  | 0, _, _ => kln_none
  | n+1, σ, y0 => kln_b_X12_isInArms_2 N (f_X12_isInArms_2 N n) (fun σ y0 => kln_f_X12_isInArms_2 N n σ y0) σ y0
theorem kln_f_X12_isInArms (N : Nat) (σ : RS) : KRn σ (f_X12_isInArms N σ) := by
  unfold f_X12_isInArms
  exact (kln_st ⟨fun _ => rfl, rfl⟩ (kln_f_X12_isInArms_2 N N σ 0))
theorem kln_b_X12_ending_119 (N : Nat) (K : RS → Int32 → Int32 → Int32 → Option (RS)) (hK : ∀ (σ : RS) (y0 : Int32) (y1 : Int32) (y2 : Int32), KVn σ (K σ y0 y1 y2)) (σ : RS) (x1 : Int32) (x2 : Int32) (x3 : Int32) : KVn σ (b_X12_ending_119 N K σ x1 x2 x3) := by
  unfold b_X12_ending_119
  exact (kvn_ite (kvn_bind (kln_st ⟨fun _ => rfl, rfl⟩ (kln_f_X12_need N σ 59)) (fun p8 => (kvn_ite (kvn_ite (kvn_bindv (kvn_st ⟨fun _ => rfl, rfl⟩ (kln_f_X12_over N p8.2 1)) (fun p14 => (kvn_some ⟨fun _ => rfl, rfl⟩))) (kvn_bindv (kvn_st ⟨fun _ => rfl, rfl⟩ (kln_f_X12_over N p8.2 0)) (fun p12 => (kvn_some ⟨fun _ => rfl, rfl⟩)))) kvn_none))) (kvn_ite (kvn_ite (kvn_ite (kvn_st ⟨fun _ => rfl, rfl⟩ (hK (RS.setA σ 23 ((x2 : Int32).toNatClampNeg) (σ.a 47 ((x3 : Int32).toNatClampNeg))) x1 x2 (x3 + 1))) kvn_none) (kvn_ite (kvn_st ⟨fun _ => rfl, rfl⟩ (hK (RS.setA σ 23 ((x2 : Int32).toNatClampNeg) (σ.a 23 ((x2 : Int32).toNatClampNeg))) x1 x2 (x3 + 1))) kvn_none)) kvn_none))
theorem kln_f_X12_ending_119 (N : Nat) : ∀ (n : Nat) (σ : RS) (y0 : Int32) (y1 : Int32) (y2 : Int32), KVn σ (f_X12_ending_119 N n σ y0 y1 y2)
  | 0, _, _, _, _ => kvn_none
  | n+1, σ, y0, y1, y2 => kln_b_X12_ending_119 N (f_X12_ending_119 N n) (fun σ y0 y1 y2 => kln_f_X12_ending_119 N n σ y0 y1 y2) σ y0 y1 y2
theorem kln_f_X12_ending_117 (N : Nat) (σ : RS) (x1 : Int32) (x2 : Int32) : KVn σ (f_X12_ending_117 N σ x1 x2) := by
  unfold f_X12_ending_117
  exact (kvn_st ⟨fun _ => rfl, rfl⟩ (kln_f_X12_ending_119 N N σ x1 x2 0))
theorem kln_f_X12_ending_63 (N : Nat) (σ : RS) : KVn σ (f_X12_ending_63 N σ) := by
  unfold f_X12_ending_63
  exact (kvn_bindv (kvn_st ⟨fun _ => rfl, rfl⟩ (kln_f_X12_next N σ)) (fun p26 => (kvn_bindv (kvn_st ⟨fun _ => rfl, rfl⟩ (kln_f_X12_then N p26 1 16)) (fun p28 => (kvn_some ⟨fun _ => rfl, rfl⟩)))))
theorem kln_f_X12_ending_53 (N : Nat) (σ : RS) : KVn σ (f_X12_ending_53 N σ) := by
  unfold f_X12_ending_53
  exact (kvn_bindv (kvn_st ⟨fun _ => rfl, rfl⟩ (kln_f_X12_fail N σ 5 (σ.i 11))) (fun p33 => (kvn_some ⟨fun _ => rfl, rfl⟩)))
theorem kln_f_X12_ending_36 (N : Nat) (σ : RS) : KVn σ (f_X12_ending_36 N σ) := by
  unfold f_X12_ending_36
  exact (kvn_ite (kvn_bind (kln_st ⟨fun _ => rfl, rfl⟩ (kln_f_X12_isInArms N σ)) (fun p30 => (kvn_ite (kvn_st ⟨fun _ => rfl, rfl⟩ (kln_f_X12_ending_53 N p30.2)) (kvn_st ⟨fun _ => rfl, rfl⟩ (kln_f_X12_ending_63 N p30.2))))) (kvn_st ⟨fun _ => rfl, rfl⟩ (kln_f_X12_ending_63 N σ)))
theorem kln_f_X12_ending (N : Nat) (σ : RS) (x1 : Int32) : KVn σ (f_X12_ending N σ x1) := by
  unfold f_X12_ending
  exact (kvn_ite (kvn_ite (kvn_ite (kvn_bind (kln_st ⟨fun _ => rfl, rfl⟩ (kln_f_X12_isInArms N (RS.setA σ 66 ((x1 : Int32).toNatClampNeg) (σ.i 10)))) (fun p35 => (kvn_ite (kvn_st ⟨fun _ => rfl, rfl⟩ (kln_f_X12_ending_36 N p35.2)) (kvn_st ⟨fun _ => rfl, rfl⟩ (kln_f_X12_ending_53 N p35.2))))) (kvn_st ⟨fun _ => rfl, rfl⟩ (kln_f_X12_ending_36 N (RS.setA σ 66 ((x1 : Int32).toNatClampNeg) (σ.i 10))))) (kvn_ite (kvn_bind (kln_st ⟨fun _ => rfl, rfl⟩ (kln_f_X12_emit N σ 16 0)) (fun p22 => (kvn_st ⟨fun _ => rfl, rfl⟩ (kln_f_X12_ending_117 N p22.2 x1 p22.1)))) (kvn_ite (kvn_bind (kln_st ⟨fun _ => rfl, rfl⟩ (kln_f_X12_emit N σ 17 0)) (fun p20 => (kvn_st ⟨fun _ => rfl, rfl⟩ (kln_f_X12_ending_117 N p20.2 x1 p20.1)))) (kvn_bind (kln_st ⟨fun _ => rfl, rfl⟩ (kln_f_X12_emit N σ 18 0)) (fun p5 => (kvn_st ⟨fun _ => rfl, rfl⟩ (kln_f_X12_ending_117 N p5.2 x1 p5.1))))))) kvn_none)
theorem kln_f_X12_throwing_142 (N : Nat) (σ : RS) : KVn σ (f_X12_throwing_142 N σ) := by
  unfold f_X12_throwing_142
  exact (kvn_bindv (kvn_st ⟨fun _ => rfl, rfl⟩ (kln_f_X12_fail N σ 3 (σ.i 11))) (fun p13 => (kvn_some ⟨fun _ => rfl, rfl⟩)))
theorem kln_f_X12_throwing_69 (N : Nat) (σ : RS) (x1 : Int32) : KVn σ (f_X12_throwing_69 N σ x1) := by
  unfold f_X12_throwing_69
  exact (kvn_ite (kvn_ite (kvn_ite (kvn_bindv (kvn_st ⟨fun _ => rfl, rfl⟩ (kln_f_X12_next N (RS.setA σ 66 ((x1 : Int32).toNatClampNeg) (σ.i 14)))) (fun p27 => (kvn_bindv (kvn_st ⟨fun _ => rfl, rfl⟩ (kln_f_X12_then N p27 1 16)) (fun p29 => (kvn_some ⟨fun _ => rfl, rfl⟩))))) kvn_none) (kvn_bindv (kvn_st ⟨fun _ => rfl, rfl⟩ (kln_f_X12_fail N σ 3 (σ.i 11))) (fun p31 => (kvn_some ⟨fun _ => rfl, rfl⟩)))) (kvn_bind (kln_st ⟨fun _ => rfl, rfl⟩ (kln_f_X12_seenAs N σ σ.l)) (fun p10 => (kvn_ite (kvn_st ⟨fun _ => rfl, rfl⟩ (kln_f_X12_throwing_142 N p10.2)) (kvn_ite (kvn_ite (kvn_st ⟨fun _ => rfl, rfl⟩ (kln_f_X12_throwing_142 N p10.2)) (kvn_bind (kln_st ⟨fun _ => rfl, rfl⟩ (kln_f_X12_emit N p10.2 21 (p10.2.a 40 ((p10.1 : Int32).toNatClampNeg)))) (fun p17 => (kvn_bindv (kvn_st ⟨fun _ => rfl, rfl⟩ (kln_f_X12_next N p17.2)) (fun p19 => (kvn_bind (kln_st ⟨fun _ => rfl, rfl⟩ (kln_f_X12_need N p19 59)) (fun p21 => (kvn_bindv (kvn_st ⟨fun _ => rfl, rfl⟩ (kln_f_X12_over N p21.2 0)) (fun p23 => (kvn_some ⟨fun _ => rfl, rfl⟩)))))))))) kvn_none)))))
theorem kln_f_X12_throwing (N : Nat) (σ : RS) (x1 : Int32) : KVn σ (f_X12_throwing N σ x1) := by
  unfold f_X12_throwing
  exact (kvn_ite (kvn_ite (kvn_bind (kln_st ⟨fun _ => rfl, rfl⟩ (kln_f_X12_emit N σ 19 (σ.a 66 ((x1 : Int32).toNatClampNeg)))) (fun p40 => (kvn_bind (kln_st ⟨fun _ => rfl, rfl⟩ (kln_f_X12_need N p40.2 59)) (fun p42 => (kvn_bindv (kvn_st ⟨fun _ => rfl, rfl⟩ (kln_f_X12_over N p42.2 0)) (fun p44 => (kvn_some ⟨fun _ => rfl, rfl⟩))))))) (kvn_bindv (kvn_st ⟨fun _ => rfl, rfl⟩ (kln_f_X12_next N σ)) (fun p3 => (kvn_ite (kvn_bind (kln_st ⟨fun _ => rfl, rfl⟩ (kln_f_X12_can N p3 1)) (fun p6 => (kvn_ite (kvn_some ⟨fun _ => rfl, rfl⟩) (kvn_st ⟨fun _ => rfl, rfl⟩ (kln_f_X12_throwing_69 N p6.2 x1))))) (kvn_ite (kvn_bind (kln_st ⟨fun _ => rfl, rfl⟩ (kln_f_X12_can N p3 1)) (fun p37 => (kvn_ite (kvn_some ⟨fun _ => rfl, rfl⟩) (kvn_st ⟨fun _ => rfl, rfl⟩ (kln_f_X12_throwing_69 N p37.2 x1))))) (kvn_bind (kln_st ⟨fun _ => rfl, rfl⟩ (kln_f_X12_can N p3 0)) (fun p34 => (kvn_ite (kvn_some ⟨fun _ => rfl, rfl⟩) (kvn_st ⟨fun _ => rfl, rfl⟩ (kln_f_X12_throwing_69 N p34.2 x1)))))))))) kvn_none)
theorem kln_f_X12_asserted (N : Nat) (σ : RS) (x1 : Int32) : KVn σ (f_X12_asserted N σ x1) := by
  unfold f_X12_asserted
  exact (kvn_ite (kvn_ite (kvn_bindv (kvn_st ⟨fun _ => rfl, rfl⟩ (kln_f_X12_next N σ)) (fun p3 => (kvn_bind (kln_st ⟨fun _ => rfl, rfl⟩ (kln_f_X12_emit N p3 22 0)) (fun p5 => (kvn_bindv (kvn_st ⟨fun _ => rfl, rfl⟩ (kln_f_X12_then N (RS.setA p5.2 66 ((x1 : Int32).toNatClampNeg) p5.1) 1 20)) (fun p7 => (kvn_some ⟨fun _ => rfl, rfl⟩))))))) (kvn_ite (kvn_bind (kln_st ⟨fun _ => rfl, rfl⟩ (kln_f_X12_emit N σ 14 0)) (fun p10 => (kvn_ite (kvn_bindv (kvn_st ⟨fun _ => rfl, rfl⟩ (kln_f_X12_next N (RS.setA p10.2 67 ((x1 : Int32).toNatClampNeg) p10.1))) (fun p15 => (kvn_bindv (kvn_st ⟨fun _ => rfl, rfl⟩ (kln_f_X12_then N p15 2 16)) (fun p17 => (kvn_some ⟨fun _ => rfl, rfl⟩))))) (kvn_bind (kln_st ⟨fun _ => rfl, rfl⟩ (kln_f_X12_emit N (RS.setA p10.2 67 ((x1 : Int32).toNatClampNeg) p10.1) 2 0)) (fun p13 => (kvn_some ⟨fun _ => rfl, rfl⟩)))))) (kvn_bind (kln_st ⟨fun _ => rfl, rfl⟩ (kln_f_X12_emit N σ 19 3)) (fun p19 => (kvn_ite (kvn_ite (kvn_bind (kln_st ⟨fun _ => rfl, rfl⟩ (kln_f_X12_need N (RS.setA (RS.setA p19.2 22 (((p19.2.a 66 ((x1 : Int32).toNatClampNeg)) : Int32).toNatClampNeg) (p19.2.i 20)) 22 (((p19.2.a 67 ((x1 : Int32).toNatClampNeg)) : Int32).toNatClampNeg) (p19.2.i 20)) 59)) (fun p23 => (kvn_bindv (kvn_st ⟨fun _ => rfl, rfl⟩ (kln_f_X12_over N p23.2 1)) (fun p25 => (kvn_some ⟨fun _ => rfl, rfl⟩))))) kvn_none) kvn_none))))) kvn_none)
theorem kln_f_X12_branch_113 (N : Nat) (σ : RS) (x1 : Int32) : KVn σ (f_X12_branch_113 N σ x1) := by
  unfold f_X12_branch_113
  exact (kvn_bind (kln_st ⟨fun _ => rfl, rfl⟩ (kln_f_X12_emit N σ 15 0)) (fun p24 => (kvn_ite (kvn_ite (kvn_bindv (kvn_st ⟨fun _ => rfl, rfl⟩ (kln_f_X12_body N (RS.setA (RS.setA p24.2 68 ((x1 : Int32).toNatClampNeg) p24.1) 22 (((p24.2.a 66 ((x1 : Int32).toNatClampNeg)) : Int32).toNatClampNeg) (p24.2.i 20)) 3)) (fun p28 => (kvn_some ⟨fun _ => rfl, rfl⟩))) kvn_none) kvn_none)))
theorem kln_f_X12_branch (N : Nat) (σ : RS) (x1 : Int32) : KVn σ (f_X12_branch N σ x1) := by
  unfold f_X12_branch
  exact (kvn_ite (kvn_ite (kvn_bindv (kvn_st ⟨fun _ => rfl, rfl⟩ (kln_f_X12_next N σ)) (fun p3 => (kvn_bind (kln_st ⟨fun _ => rfl, rfl⟩ (kln_f_X12_open N p3 40)) (fun p5 => (kvn_bindv (kvn_st ⟨fun _ => rfl, rfl⟩ (kln_f_X12_then N p5.2 1 20)) (fun p7 => (kvn_some ⟨fun _ => rfl, rfl⟩))))))) (kvn_ite (kvn_bind (kln_st ⟨fun _ => rfl, rfl⟩ (kln_f_X12_shut N σ 41)) (fun p10 => (kvn_bind (kln_st ⟨fun _ => rfl, rfl⟩ (kln_f_X12_emit N p10.2 13 0)) (fun p12 => (kvn_bindv (kvn_st ⟨fun _ => rfl, rfl⟩ (kln_f_X12_body N (RS.setA p12.2 66 ((x1 : Int32).toNatClampNeg) p12.1) 2)) (fun p14 => (kvn_some ⟨fun _ => rfl, rfl⟩))))))) (kvn_ite (kvn_ite (kvn_bindv (kvn_st ⟨fun _ => rfl, rfl⟩ (kln_f_X12_next N σ)) (fun p21 => (kvn_ite (kvn_st ⟨fun _ => rfl, rfl⟩ (kln_f_X12_branch_113 N (RS.setA p21 67 ((x1 : Int32).toNatClampNeg) 0) x1)) (kvn_st ⟨fun _ => rfl, rfl⟩ (kln_f_X12_branch_113 N (RS.setA p21 67 ((x1 : Int32).toNatClampNeg) 1) x1))))) (kvn_ite (kvn_bindv (kvn_st ⟨fun _ => rfl, rfl⟩ (kln_f_X12_over N (RS.setA σ 22 (((σ.a 66 ((x1 : Int32).toNatClampNeg)) : Int32).toNatClampNeg) (σ.i 20)) 1)) (fun p19 => (kvn_some ⟨fun _ => rfl, rfl⟩))) kvn_none)) (kvn_ite (kvn_ite (kvn_ite (kvn_bindv (kvn_st ⟨fun _ => rfl, rfl⟩ (kln_f_X12_over N (RS.setA σ 22 (((σ.a 68 ((x1 : Int32).toNatClampNeg)) : Int32).toNatClampNeg) (σ.i 20)) 1)) (fun p37 => (kvn_some ⟨fun _ => rfl, rfl⟩))) (kvn_bindv (kvn_st ⟨fun _ => rfl, rfl⟩ (kln_f_X12_over N (RS.setA σ 22 (((σ.a 68 ((x1 : Int32).toNatClampNeg)) : Int32).toNatClampNeg) (σ.i 20)) 0)) (fun p35 => (kvn_some ⟨fun _ => rfl, rfl⟩)))) (kvn_bindv (kvn_st ⟨fun _ => rfl, rfl⟩ (kln_f_X12_over N (RS.setA σ 22 (((σ.a 68 ((x1 : Int32).toNatClampNeg)) : Int32).toNatClampNeg) (σ.i 20)) 1)) (fun p32 => (kvn_some ⟨fun _ => rfl, rfl⟩)))) kvn_none)))) kvn_none)
theorem kln_f_X12_isJustTrue_18 (N : Nat) (σ : RS) : KRn σ (f_X12_isJustTrue_18 N σ) := by
  unfold f_X12_isJustTrue_18
  exact (kln_some ⟨fun _ => rfl, rfl⟩)
theorem kln_f_X12_isJustTrue (N : Nat) (σ : RS) (x1 : Int32) : KRn σ (f_X12_isJustTrue N σ x1) := by
  unfold f_X12_isJustTrue
  exact (kln_ite (kln_st ⟨fun _ => rfl, rfl⟩ (kln_f_X12_isJustTrue_18 N σ)) (kln_ite (kln_some ⟨fun _ => rfl, rfl⟩) (kln_st ⟨fun _ => rfl, rfl⟩ (kln_f_X12_isJustTrue_18 N σ))))
theorem kln_f_X12_whiles_77 (N : Nat) (σ : RS) : KVn σ (f_X12_whiles_77 N σ) := by
  unfold f_X12_whiles_77
  exact (kvn_bindv (kvn_st ⟨fun _ => rfl, rfl⟩ (kln_f_X12_then N σ 1 20)) (fun p8 => (kvn_some ⟨fun _ => rfl, rfl⟩)))
theorem kln_f_X12_whiles_111 (N : Nat) (σ : RS) (x1 : Int32) : KVn σ (f_X12_whiles_111 N σ x1) := by
  unfold f_X12_whiles_111
  exact (kvn_bind (kln_st ⟨fun _ => rfl, rfl⟩ (kln_f_X12_shut N σ 41)) (fun p14 => (kvn_bind (kln_st ⟨fun _ => rfl, rfl⟩ (kln_f_X12_emit N p14.2 13 0)) (fun p16 => (kvn_ite (kvn_bind (kln_st ⟨fun _ => rfl, rfl⟩ (kln_f_X12_emit N (RS.setA p16.2 67 ((x1 : Int32).toNatClampNeg) p16.1) 1 0)) (fun p19 => (kvn_bind (kln_st ⟨fun _ => rfl, rfl⟩ (kln_f_X12_loopGoal N p19.2)) (fun p21 => (kvn_bindv (kvn_st ⟨fun _ => rfl, rfl⟩ (kln_f_X12_body N (RS.setA p21.2 68 ((x1 : Int32).toNatClampNeg) p21.1) 2)) (fun p23 => (kvn_some ⟨fun _ => rfl, rfl⟩))))))) kvn_none)))))
theorem kln_f_X12_whiles (N : Nat) (σ : RS) (x1 : Int32) : KVn σ (f_X12_whiles N σ x1) := by
  unfold f_X12_whiles
  exact (kvn_ite (kvn_ite (kvn_bindv (kvn_st ⟨fun _ => rfl, rfl⟩ (kln_f_X12_next N σ)) (fun p3 => (kvn_bind (kln_st ⟨fun _ => rfl, rfl⟩ (kln_f_X12_open N (RS.setA p3 66 ((x1 : Int32).toNatClampNeg) (p3.i 20)) 40)) (fun p5 => (kvn_ite (kvn_st ⟨fun _ => rfl, rfl⟩ (kln_f_X12_whiles_77 N (RS.setA p5.2 69 ((x1 : Int32).toNatClampNeg) (p5.2.i 17)))) (kvn_st ⟨fun _ => rfl, rfl⟩ (kln_f_X12_whiles_77 N (RS.setA p5.2 69 ((x1 : Int32).toNatClampNeg) 0)))))))) (kvn_ite (kvn_bind (kln_st ⟨fun _ => rfl, rfl⟩ (kln_f_X12_isJustTrue N σ (σ.a 69 ((x1 : Int32).toNatClampNeg)))) (fun p11 => (kvn_ite (kvn_st ⟨fun _ => rfl, rfl⟩ (kln_f_X12_whiles_111 N (RS.setA p11.2 71 ((x1 : Int32).toNatClampNeg) 0) x1)) (kvn_st ⟨fun _ => rfl, rfl⟩ (kln_f_X12_whiles_111 N (RS.setA p11.2 71 ((x1 : Int32).toNatClampNeg) 1) x1))))) (kvn_ite (kvn_bindv (kvn_st ⟨fun _ => rfl, rfl⟩ (kln_f_X12_patch N σ (σ.a 49 (((σ.a 68 ((x1 : Int32).toNatClampNeg)) : Int32).toNatClampNeg)) (σ.a 66 ((x1 : Int32).toNatClampNeg)))) (fun p26 => (kvn_bind (kln_st ⟨fun _ => rfl, rfl⟩ (kln_f_X12_emit N p26 15 (p26.a 66 ((x1 : Int32).toNatClampNeg)))) (fun p28 => (kvn_ite (kvn_bindv (kvn_st ⟨fun _ => rfl, rfl⟩ (kln_f_X12_patch N (RS.setA p28.2 22 (((p28.2.a 67 ((x1 : Int32).toNatClampNeg)) : Int32).toNatClampNeg) (p28.2.i 20)) (p28.2.a 48 (((σ.a 68 ((x1 : Int32).toNatClampNeg)) : Int32).toNatClampNeg)) (p28.2.i 20))) (fun p31 => (kvn_ite (kvn_bindv (kvn_st ⟨fun _ => rfl, rfl⟩ (kln_f_X12_over N (RS.setI p31 43 ((p31.i 43) - 1)) 1)) (fun p34 => (kvn_some ⟨fun _ => rfl, rfl⟩))) (kvn_ite (kvn_bindv (kvn_st ⟨fun _ => rfl, rfl⟩ (kln_f_X12_over N (RS.setI p31 43 ((p31.i 43) - 1)) 0)) (fun p37 => (kvn_some ⟨fun _ => rfl, rfl⟩))) (kvn_bindv (kvn_st ⟨fun _ => rfl, rfl⟩ (kln_f_X12_over N (RS.setI p31 43 ((p31.i 43) - 1)) 1)) (fun p39 => (kvn_some ⟨fun _ => rfl, rfl⟩))))))) kvn_none))))) kvn_none))) kvn_none)
theorem kln_f_X12_repeats_195 (N : Nat) (σ : RS) : KVn σ (f_X12_repeats_195 N σ) := by
  unfold f_X12_repeats_195
  exact (kvn_bindv (kvn_st ⟨fun _ => rfl, rfl⟩ (kln_f_X12_then N σ 2 20)) (fun p26 => (kvn_some ⟨fun _ => rfl, rfl⟩)))
theorem kln_f_X12_repeats_134 (N : Nat) (σ : RS) (x1 : Int32) (x2 : Int32) : KVn σ (f_X12_repeats_134 N σ x1 x2) := by
  unfold f_X12_repeats_134
  exact (kvn_ite (kvn_ite (kvn_bind (kln_st ⟨fun _ => rfl, rfl⟩ (kln_f_X12_need N (RS.setI (RS.setA σ 70 ((x1 : Int32).toNatClampNeg) (σ.a 48 ((x2 : Int32).toNatClampNeg))) 43 ((σ.i 43) - 1)) 415)) (fun p21 => (kvn_bind (kln_st ⟨fun _ => rfl, rfl⟩ (kln_f_X12_open N p21.2 40)) (fun p23 => (kvn_ite (kvn_st ⟨fun _ => rfl, rfl⟩ (kln_f_X12_repeats_195 N (RS.setA p23.2 69 ((x1 : Int32).toNatClampNeg) (p23.2.i 17)))) (kvn_st ⟨fun _ => rfl, rfl⟩ (kln_f_X12_repeats_195 N (RS.setA p23.2 69 ((x1 : Int32).toNatClampNeg) 0)))))))) kvn_none) kvn_none)
theorem kln_f_X12_repeats_114 (N : Nat) (σ : RS) (x1 : Int32) (x2 : Int32) : KVn σ (f_X12_repeats_114 N σ x1 x2) := by
  unfold f_X12_repeats_114
  exact (kvn_ite (kvn_ite (kvn_ite (kvn_st ⟨fun _ => rfl, rfl⟩ (kln_f_X12_repeats_134 N (RS.setA σ 72 ((x1 : Int32).toNatClampNeg) 0) x1 x2)) kvn_none) (kvn_ite (kvn_st ⟨fun _ => rfl, rfl⟩ (kln_f_X12_repeats_134 N (RS.setA σ 72 ((x1 : Int32).toNatClampNeg) 1) x1 x2)) kvn_none)) kvn_none)
theorem kln_f_X12_repeats (N : Nat) (σ : RS) (x1 : Int32) : KVn σ (f_X12_repeats N σ x1) := by
  unfold f_X12_repeats
  exact (kvn_ite (kvn_ite (kvn_bindv (kvn_st ⟨fun _ => rfl, rfl⟩ (kln_f_X12_next N σ)) (fun p3 => (kvn_bind (kln_st ⟨fun _ => rfl, rfl⟩ (kln_f_X12_emit N p3 1 0)) (fun p5 => (kvn_bind (kln_st ⟨fun _ => rfl, rfl⟩ (kln_f_X12_loopGoal N (RS.setA p5.2 66 ((x1 : Int32).toNatClampNeg) p5.1))) (fun p7 => (kvn_bindv (kvn_st ⟨fun _ => rfl, rfl⟩ (kln_f_X12_body N (RS.setA p7.2 68 ((x1 : Int32).toNatClampNeg) p7.1) 1)) (fun p9 => (kvn_some ⟨fun _ => rfl, rfl⟩))))))))) (kvn_ite (kvn_ite (kvn_bindv (kvn_st ⟨fun _ => rfl, rfl⟩ (kln_f_X12_patch N σ (σ.a 49 (((σ.a 68 ((x1 : Int32).toNatClampNeg)) : Int32).toNatClampNeg)) (σ.i 20))) (fun p13 => (kvn_ite (kvn_ite (kvn_st ⟨fun _ => rfl, rfl⟩ (kln_f_X12_repeats_114 N (RS.setA p13 67 ((x1 : Int32).toNatClampNeg) 0) x1 (σ.a 68 ((x1 : Int32).toNatClampNeg)))) (kvn_st ⟨fun _ => rfl, rfl⟩ (kln_f_X12_repeats_114 N (RS.setA p13 67 ((x1 : Int32).toNatClampNeg) 1) x1 (σ.a 68 ((x1 : Int32).toNatClampNeg))))) (kvn_st ⟨fun _ => rfl, rfl⟩ (kln_f_X12_repeats_114 N (RS.setA p13 67 ((x1 : Int32).toNatClampNeg) 1) x1 (σ.a 68 ((x1 : Int32).toNatClampNeg))))))) kvn_none) (kvn_bind (kln_st ⟨fun _ => rfl, rfl⟩ (kln_f_X12_isJustTrue N σ (σ.a 69 ((x1 : Int32).toNatClampNeg)))) (fun p30 => (kvn_bind (kln_st ⟨fun _ => rfl, rfl⟩ (kln_f_X12_shut N p30.2 41)) (fun p32 => (kvn_bind (kln_st ⟨fun _ => rfl, rfl⟩ (kln_f_X12_need N p32.2 59)) (fun p34 => (kvn_bind (kln_st ⟨fun _ => rfl, rfl⟩ (kln_f_X12_emit N p34.2 14 (p34.2.a 66 ((x1 : Int32).toNatClampNeg)))) (fun p36 => (kvn_bindv (kvn_st ⟨fun _ => rfl, rfl⟩ (kln_f_X12_patch N p36.2 (p36.2.a 70 ((x1 : Int32).toNatClampNeg)) (p36.2.i 20))) (fun p38 => (kvn_ite (kvn_ite (kvn_bindv (kvn_st ⟨fun _ => rfl, rfl⟩ (kln_f_X12_over N p38 1)) (fun p47 => (kvn_some ⟨fun _ => rfl, rfl⟩))) (kvn_ite (kvn_bindv (kvn_st ⟨fun _ => rfl, rfl⟩ (kln_f_X12_over N p38 1)) (fun p52 => (kvn_some ⟨fun _ => rfl, rfl⟩))) (kvn_bindv (kvn_st ⟨fun _ => rfl, rfl⟩ (kln_f_X12_over N p38 0)) (fun p50 => (kvn_some ⟨fun _ => rfl, rfl⟩))))) (kvn_ite (kvn_bindv (kvn_st ⟨fun _ => rfl, rfl⟩ (kln_f_X12_over N p38 1)) (fun p44 => (kvn_some ⟨fun _ => rfl, rfl⟩))) (kvn_bindv (kvn_st ⟨fun _ => rfl, rfl⟩ (kln_f_X12_over N p38 0)) (fun p42 => (kvn_some ⟨fun _ => rfl, rfl⟩))))))))))))))))) kvn_none)
theorem kln_f_X12_forHead_231 (N : Nat) (σ : RS) (x1 : Int32) : KVn σ (f_X12_forHead_231 N σ x1) := by
  unfold f_X12_forHead_231
  exact (kvn_ite (kvn_some ⟨fun _ => rfl, rfl⟩) kvn_none)
theorem kln_f_X12_forHead_196 (N : Nat) (σ : RS) : KVn σ (f_X12_forHead_196 N σ) := by
  unfold f_X12_forHead_196
  exact (kvn_bindv (kvn_st ⟨fun _ => rfl, rfl⟩ (kln_f_X12_next N σ)) (fun p21 => (kvn_bindv (kvn_st ⟨fun _ => rfl, rfl⟩ (kln_f_X12_then N p21 2 16)) (fun p23 => (kvn_some ⟨fun _ => rfl, rfl⟩)))))
theorem kln_f_X12_forHead_142 (N : Nat) (σ : RS) : KVn σ (f_X12_forHead_142 N σ) := by
  unfold f_X12_forHead_142
  exact (kvn_some ⟨fun _ => rfl, rfl⟩)
theorem kln_f_X12_forHead_76 (N : Nat) (σ : RS) (x1 : Int32) (x2 : Int32) : KVn σ (f_X12_forHead_76 N σ x1 x2) := by
  unfold f_X12_forHead_76
  exact (kvn_bindv (kvn_st ⟨fun _ => rfl, rfl⟩ (kln_f_X12_next N σ)) (fun p38 => (kvn_ite (kvn_bindv (kvn_st ⟨fun _ => rfl, rfl⟩ (kln_f_X12_then N p38 1 16)) (fun p50 => (kvn_st ⟨fun _ => rfl, rfl⟩ (kln_f_X12_forHead_142 N p50)))) (kvn_ite (kvn_bindv (kvn_st ⟨fun _ => rfl, rfl⟩ (kln_f_X12_next N p38)) (fun p45 => (kvn_bind (kln_st ⟨fun _ => rfl, rfl⟩ (kln_f_X12_emit N p45 20 1)) (fun p47 => (kvn_ite (kvn_st ⟨fun _ => rfl, rfl⟩ (kln_f_X12_forHead_142 N (RS.setA p47.2 65 ((x1 : Int32).toNatClampNeg) 12))) kvn_none))))) (kvn_ite (kvn_bindv (kvn_st ⟨fun _ => rfl, rfl⟩ (kln_f_X12_then N (RS.setA p38 68 ((x1 : Int32).toNatClampNeg) 0) 10 16)) (fun p43 => (kvn_st ⟨fun _ => rfl, rfl⟩ (kln_f_X12_forHead_142 N p43)))) kvn_none)))))
theorem kln_f_X12_forHead_61 (N : Nat) (σ : RS) (x1 : Int32) : KVn σ (f_X12_forHead_61 N σ x1) := by
  unfold f_X12_forHead_61
  exact (kvn_ite (kvn_st ⟨fun _ => rfl, rfl⟩ (kln_f_X12_forHead_76 N σ x1 1)) (kvn_st ⟨fun _ => rfl, rfl⟩ (kln_f_X12_forHead_76 N σ x1 0)))
theorem kln_f_X12_forHead (N : Nat) (σ : RS) (x1 : Int32) : KVn σ (f_X12_forHead N σ x1) := by
  unfold f_X12_forHead
  exact (kvn_ite (kvn_ite (kvn_bindv (kvn_st ⟨fun _ => rfl, rfl⟩ (kln_f_X12_next N σ)) (fun p28 => (kvn_bind (kln_st ⟨fun _ => rfl, rfl⟩ (kln_f_X12_telling N p28 x1)) (fun p30 => (kvn_ite (kvn_some ⟨fun _ => rfl, rfl⟩) (kvn_ite (kvn_bind (kln_st ⟨fun _ => rfl, rfl⟩ (kln_f_X12_can N p30.2 1)) (fun p34 => (kvn_ite (kvn_some ⟨fun _ => rfl, rfl⟩) (kvn_st ⟨fun _ => rfl, rfl⟩ (kln_f_X12_forHead_61 N p34.2 x1))))) (kvn_ite (kvn_bind (kln_st ⟨fun _ => rfl, rfl⟩ (kln_f_X12_can N p30.2 1)) (fun p56 => (kvn_ite (kvn_some ⟨fun _ => rfl, rfl⟩) (kvn_st ⟨fun _ => rfl, rfl⟩ (kln_f_X12_forHead_61 N p56.2 x1))))) (kvn_bind (kln_st ⟨fun _ => rfl, rfl⟩ (kln_f_X12_can N p30.2 0)) (fun p53 => (kvn_ite (kvn_some ⟨fun _ => rfl, rfl⟩) (kvn_st ⟨fun _ => rfl, rfl⟩ (kln_f_X12_forHead_61 N p53.2 x1)))))))))))) (kvn_ite (kvn_bind (kln_st ⟨fun _ => rfl, rfl⟩ (kln_f_X12_got N σ σ.l (σ.i 11))) (fun p12 => (kvn_ite (kvn_bindv (kvn_st ⟨fun _ => rfl, rfl⟩ (kln_f_X12_next N (RS.setA p12.2 66 ((x1 : Int32).toNatClampNeg) p12.1))) (fun p15 => (kvn_ite (kvn_bind (kln_st ⟨fun _ => rfl, rfl⟩ (kln_f_X12_can N p15 1)) (fun p25 => (kvn_ite (kvn_some ⟨fun _ => rfl, rfl⟩) (kvn_st ⟨fun _ => rfl, rfl⟩ (kln_f_X12_forHead_196 N p25.2))))) (kvn_bind (kln_st ⟨fun _ => rfl, rfl⟩ (kln_f_X12_can N p15 0)) (fun p18 => (kvn_ite (kvn_some ⟨fun _ => rfl, rfl⟩) (kvn_st ⟨fun _ => rfl, rfl⟩ (kln_f_X12_forHead_196 N p18.2)))))))) kvn_none))) (kvn_ite (kvn_bind (kln_st ⟨fun _ => rfl, rfl⟩ (kln_f_X12_can N σ 1)) (fun p9 => (kvn_ite (kvn_some ⟨fun _ => rfl, rfl⟩) (kvn_st ⟨fun _ => rfl, rfl⟩ (kln_f_X12_forHead_231 N p9.2 x1))))) (kvn_bind (kln_st ⟨fun _ => rfl, rfl⟩ (kln_f_X12_can N σ 0)) (fun p5 => (kvn_ite (kvn_some ⟨fun _ => rfl, rfl⟩) (kvn_st ⟨fun _ => rfl, rfl⟩ (kln_f_X12_forHead_231 N p5.2 x1)))))))) (kvn_some ⟨fun _ => rfl, rfl⟩))
theorem kln_f_X12_forBehind_59 (N : Nat) (σ : RS) (x1 : Int32) : KVn σ (f_X12_forBehind_59 N σ x1) := by
  unfold f_X12_forBehind_59
  exact (kvn_ite (kvn_some ⟨fun _ => rfl, rfl⟩) kvn_none)
theorem kln_f_X12_forBehind_159 (N : Nat) (σ : RS) (x1 : Int32) (x2 : Int32) : KVn σ (f_X12_forBehind_159 N σ x1 x2) := by
  unfold f_X12_forBehind_159
  exact (kvn_bindv (kvn_st ⟨fun _ => rfl, rfl⟩ (kln_f_X12_next N σ)) (fun p25 => (kvn_ite (kvn_bindv (kvn_st ⟨fun _ => rfl, rfl⟩ (kln_f_X12_then N p25 6 16)) (fun p28 => (kvn_some ⟨fun _ => rfl, rfl⟩))) (kvn_ite (kvn_bind (kln_st ⟨fun _ => rfl, rfl⟩ (kln_f_X12_emit N p25 6 (p25.a 73 ((x1 : Int32).toNatClampNeg)))) (fun p31 => (kvn_some ⟨fun _ => rfl, rfl⟩))) kvn_none))))
theorem kln_f_X12_forBehind_143 (N : Nat) (σ : RS) (x1 : Int32) : KVn σ (f_X12_forBehind_143 N σ x1) := by
  unfold f_X12_forBehind_143
  exact (kvn_ite (kvn_st ⟨fun _ => rfl, rfl⟩ (kln_f_X12_forBehind_159 N σ x1 1)) (kvn_st ⟨fun _ => rfl, rfl⟩ (kln_f_X12_forBehind_159 N σ x1 0)))
theorem kln_f_X12_forBehind_89 (N : Nat) (σ : RS) (x1 : Int32) : KVn σ (f_X12_forBehind_89 N σ x1) := by
  unfold f_X12_forBehind_89
  exact (kvn_bind (kln_st ⟨fun _ => rfl, rfl⟩ (kln_f_X12_got N σ σ.l (σ.i 11))) (fun p15 => (kvn_ite (kvn_bindv (kvn_st ⟨fun _ => rfl, rfl⟩ (kln_f_X12_next N (RS.setA p15.2 73 ((x1 : Int32).toNatClampNeg) p15.1))) (fun p18 => (kvn_ite (kvn_bind (kln_st ⟨fun _ => rfl, rfl⟩ (kln_f_X12_can N p18 1)) (fun p21 => (kvn_ite (kvn_some ⟨fun _ => rfl, rfl⟩) (kvn_st ⟨fun _ => rfl, rfl⟩ (kln_f_X12_forBehind_143 N p21.2 x1))))) (kvn_ite (kvn_bind (kln_st ⟨fun _ => rfl, rfl⟩ (kln_f_X12_can N p18 1)) (fun p37 => (kvn_ite (kvn_some ⟨fun _ => rfl, rfl⟩) (kvn_st ⟨fun _ => rfl, rfl⟩ (kln_f_X12_forBehind_143 N p37.2 x1))))) (kvn_bind (kln_st ⟨fun _ => rfl, rfl⟩ (kln_f_X12_can N p18 0)) (fun p34 => (kvn_ite (kvn_some ⟨fun _ => rfl, rfl⟩) (kvn_st ⟨fun _ => rfl, rfl⟩ (kln_f_X12_forBehind_143 N p34.2 x1))))))))) kvn_none)))
theorem kln_f_X12_forBehind (N : Nat) (σ : RS) (x1 : Int32) : KVn σ (f_X12_forBehind N σ x1) := by
  unfold f_X12_forBehind
  exact (kvn_bind (kln_st ⟨fun _ => rfl, rfl⟩ (kln_f_X12_need N σ 59)) (fun p1 => (kvn_bind (kln_st ⟨fun _ => rfl, rfl⟩ (kln_f_X12_emit N p1.2 13 0)) (fun p3 => (kvn_ite (kvn_bind (kln_st ⟨fun _ => rfl, rfl⟩ (kln_f_X12_emit N (RS.setA p3.2 67 ((x1 : Int32).toNatClampNeg) p3.1) 15 0)) (fun p6 => (kvn_ite (kvn_ite (kvn_st ⟨fun _ => rfl, rfl⟩ (kln_f_X12_forBehind_59 N (RS.setA (RS.setA p6.2 68 ((x1 : Int32).toNatClampNeg) p6.1) 70 ((x1 : Int32).toNatClampNeg) (p6.2.i 20)) x1)) (kvn_ite (kvn_bind (kln_st ⟨fun _ => rfl, rfl⟩ (kln_f_X12_can N (RS.setA (RS.setA p6.2 68 ((x1 : Int32).toNatClampNeg) p6.1) 70 ((x1 : Int32).toNatClampNeg) (p6.2.i 20)) 1)) (fun p40 => (kvn_ite (kvn_some ⟨fun _ => rfl, rfl⟩) (kvn_st ⟨fun _ => rfl, rfl⟩ (kln_f_X12_forBehind_89 N p40.2 x1))))) (kvn_bind (kln_st ⟨fun _ => rfl, rfl⟩ (kln_f_X12_can N (RS.setA (RS.setA p6.2 68 ((x1 : Int32).toNatClampNeg) p6.1) 70 ((x1 : Int32).toNatClampNeg) (p6.2.i 20)) 0)) (fun p12 => (kvn_ite (kvn_some ⟨fun _ => rfl, rfl⟩) (kvn_st ⟨fun _ => rfl, rfl⟩ (kln_f_X12_forBehind_89 N p12.2 x1))))))) (kvn_st ⟨fun _ => rfl, rfl⟩ (kln_f_X12_forBehind_59 N (RS.setA (RS.setA p6.2 68 ((x1 : Int32).toNatClampNeg) p6.1) 70 ((x1 : Int32).toNatClampNeg) (p6.2.i 20)) x1))))) kvn_none)))))
theorem kln_f_X12_rows (N : Nat) (σ : RS) (x1 : Int32) : KVn σ (f_X12_rows N σ x1) := by
  unfold f_X12_rows
  exact (kvn_ite (kvn_ite (kvn_ite (kvn_bindv (kvn_st ⟨fun _ => rfl, rfl⟩ (kln_f_X12_next N (RS.setA σ 68 ((x1 : Int32).toNatClampNeg) ((σ.a 68 ((x1 : Int32).toNatClampNeg)) + 1)))) (fun p30 => (kvn_bindv (kvn_st ⟨fun _ => rfl, rfl⟩ (kln_f_X12_then N p30 10 16)) (fun p32 => (kvn_some ⟨fun _ => rfl, rfl⟩))))) (kvn_bind (kln_st ⟨fun _ => rfl, rfl⟩ (kln_f_X12_emit N (RS.setA σ 68 ((x1 : Int32).toNatClampNeg) ((σ.a 68 ((x1 : Int32).toNatClampNeg)) + 1)) 23 ((upd (σ.a 68) ((x1 : Int32).toNatClampNeg) ((σ.a 68 ((x1 : Int32).toNatClampNeg)) + 1)) ((x1 : Int32).toNatClampNeg)))) (fun p28 => (kvn_some ⟨fun _ => rfl, rfl⟩)))) (kvn_ite (kvn_bind (kln_st ⟨fun _ => rfl, rfl⟩ (kln_f_X12_see N σ (σ.b 74 ((x1 : Int32).toNatClampNeg)) 0)) (fun p16 => (kvn_bind (kln_st ⟨fun _ => rfl, rfl⟩ (kln_f_X12_shut N p16.2 41)) (fun p18 => (kvn_bind (kln_st ⟨fun _ => rfl, rfl⟩ (kln_f_X12_emit N (RS.setI p18.2 52 ((p18.2.i 52) + 1)) 24 0)) (fun p20 => (kvn_ite (kvn_bind (kln_st ⟨fun _ => rfl, rfl⟩ (kln_f_X12_loopGoal N (RS.setA (RS.setA p20.2 66 ((x1 : Int32).toNatClampNeg) p20.1) 23 ((((upd (p20.2.a 66) ((x1 : Int32).toNatClampNeg) p20.1) ((x1 : Int32).toNatClampNeg)) : Int32).toNatClampNeg) p16.1))) (fun p23 => (kvn_bindv (kvn_st ⟨fun _ => rfl, rfl⟩ (kln_f_X12_body N (RS.setA p23.2 73 ((x1 : Int32).toNatClampNeg) p23.1) 13)) (fun p25 => (kvn_some ⟨fun _ => rfl, rfl⟩))))) kvn_none))))))) (kvn_ite (kvn_bindv (kvn_st ⟨fun _ => rfl, rfl⟩ (kln_f_X12_patch N σ (σ.a 49 (((σ.a 73 ((x1 : Int32).toNatClampNeg)) : Int32).toNatClampNeg)) (σ.a 66 ((x1 : Int32).toNatClampNeg)))) (fun p5 => (kvn_bind (kln_st ⟨fun _ => rfl, rfl⟩ (kln_f_X12_emit N p5 15 (p5.a 66 ((x1 : Int32).toNatClampNeg)))) (fun p7 => (kvn_ite (kvn_bindv (kvn_st ⟨fun _ => rfl, rfl⟩ (kln_f_X12_patch N (RS.setA p7.2 22 (((p7.2.a 66 ((x1 : Int32).toNatClampNeg)) : Int32).toNatClampNeg) (p7.2.i 20)) (p7.2.a 48 (((σ.a 73 ((x1 : Int32).toNatClampNeg)) : Int32).toNatClampNeg)) (p7.2.i 20))) (fun p10 => (kvn_bind (kln_st ⟨fun _ => rfl, rfl⟩ (kln_f_X12_emit N p10 25 0)) (fun p12 => (kvn_bindv (kvn_st ⟨fun _ => rfl, rfl⟩ (kln_f_X12_over N (RS.setI (RS.setI (RS.setI p12.2 52 ((p12.2.i 52) - 1)) 43 ((p12.2.i 43) - 1)) 38 (p12.2.a 71 ((x1 : Int32).toNatClampNeg))) 1)) (fun p14 => (kvn_some ⟨fun _ => rfl, rfl⟩))))))) kvn_none))))) kvn_none))) kvn_none)
theorem kln_f_X12_fors_195 (N : Nat) (σ : RS) (x1 : Int32) : KVn σ (f_X12_fors_195 N σ x1) := by
  unfold f_X12_fors_195
  exact (kvn_ite (kvn_bind (kln_st ⟨fun _ => rfl, rfl⟩ (kln_f_X12_emit N σ 2 1)) (fun p26 => (kvn_ite (kvn_some ⟨fun _ => rfl, rfl⟩) kvn_none))) (kvn_bindv (kvn_st ⟨fun _ => rfl, rfl⟩ (kln_f_X12_then N σ 4 20)) (fun p24 => (kvn_some ⟨fun _ => rfl, rfl⟩))))
theorem kln_f_X12_fors_175 (N : Nat) (σ : RS) (x1 : Int32) : KVn σ (f_X12_fors_175 N σ x1) := by
  unfold f_X12_fors_175
  exact (kvn_ite (kvn_ite (kvn_st ⟨fun _ => rfl, rfl⟩ (kln_f_X12_fors_195 N (RS.setA σ 72 ((x1 : Int32).toNatClampNeg) 1) x1)) kvn_none) (kvn_ite (kvn_st ⟨fun _ => rfl, rfl⟩ (kln_f_X12_fors_195 N (RS.setA σ 72 ((x1 : Int32).toNatClampNeg) 0) x1)) kvn_none))
theorem kln_f_X12_fors_255 (N : Nat) (σ : RS) (x1 : Int32) : KVn σ (f_X12_fors_255 N σ x1) := by
  unfold f_X12_fors_255
  exact (kvn_ite (kvn_some ⟨fun _ => rfl, rfl⟩) kvn_none)
theorem kln_f_X12_fors_469 (N : Nat) (σ : RS) : KVn σ (f_X12_fors_469 N σ) := by
  unfold f_X12_fors_469
  exact (kvn_some ⟨fun _ => rfl, rfl⟩)
theorem kln_f_X12_fors (N : Nat) (σ : RS) (x1 : Int32) : KVn σ (f_X12_fors N σ x1) := by
  unfold f_X12_fors
  exact (kvn_ite (kvn_ite (kvn_bindv (kvn_st ⟨fun _ => rfl, rfl⟩ (kln_f_X12_next N (RS.setA σ 71 ((x1 : Int32).toNatClampNeg) (σ.i 38)))) (fun p3 => (kvn_bind (kln_st ⟨fun _ => rfl, rfl⟩ (kln_f_X12_open N p3 40)) (fun p5 => (kvn_bindv (kvn_st ⟨fun _ => rfl, rfl⟩ (kln_f_X12_forHead N p5.2 x1)) (fun p7 => (kvn_some ⟨fun _ => rfl, rfl⟩))))))) (kvn_ite (kvn_bind (kln_st ⟨fun _ => rfl, rfl⟩ (kln_f_X12_see N σ (σ.b 74 ((x1 : Int32).toNatClampNeg)) 0)) (fun p10 => (kvn_bind (kln_st ⟨fun _ => rfl, rfl⟩ (kln_f_X12_emit N p10.2 5 p10.1)) (fun p12 => (kvn_some ⟨fun _ => rfl, rfl⟩))))) (kvn_ite (kvn_bind (kln_st ⟨fun _ => rfl, rfl⟩ (kln_f_X12_emit N σ 5 (σ.a 66 ((x1 : Int32).toNatClampNeg)))) (fun p15 => (kvn_some ⟨fun _ => rfl, rfl⟩))) (kvn_ite (kvn_bind (kln_st ⟨fun _ => rfl, rfl⟩ (kln_f_X12_need N σ 59)) (fun p18 => (kvn_ite (kvn_st ⟨fun _ => rfl, rfl⟩ (kln_f_X12_fors_175 N (RS.setA (RS.setA p18.2 66 ((x1 : Int32).toNatClampNeg) (p18.2.i 20)) 69 ((x1 : Int32).toNatClampNeg) (p18.2.i 17)) x1)) (kvn_st ⟨fun _ => rfl, rfl⟩ (kln_f_X12_fors_175 N (RS.setA (RS.setA p18.2 66 ((x1 : Int32).toNatClampNeg) (p18.2.i 20)) 69 ((x1 : Int32).toNatClampNeg) 0) x1))))) (kvn_ite (kvn_bind (kln_st ⟨fun _ => rfl, rfl⟩ (kln_f_X12_isJustTrue N σ (σ.a 69 ((x1 : Int32).toNatClampNeg)))) (fun p31 => (kvn_ite (kvn_st ⟨fun _ => rfl, rfl⟩ (kln_f_X12_fors_255 N (RS.setA p31.2 72 ((x1 : Int32).toNatClampNeg) 0) x1)) (kvn_st ⟨fun _ => rfl, rfl⟩ (kln_f_X12_fors_255 N (RS.setA p31.2 72 ((x1 : Int32).toNatClampNeg) 1) x1))))) (kvn_ite (kvn_bindv (kvn_st ⟨fun _ => rfl, rfl⟩ (kln_f_X12_forBehind N σ x1)) (fun p36 => (kvn_some ⟨fun _ => rfl, rfl⟩))) (kvn_ite (kvn_bind (kln_st ⟨fun _ => rfl, rfl⟩ (kln_f_X12_emit N σ 5 (σ.a 73 ((x1 : Int32).toNatClampNeg)))) (fun p39 => (kvn_some ⟨fun _ => rfl, rfl⟩))) (kvn_ite (kvn_bind (kln_st ⟨fun _ => rfl, rfl⟩ (kln_f_X12_emit N σ 15 (σ.a 66 ((x1 : Int32).toNatClampNeg)))) (fun p42 => (kvn_bind (kln_st ⟨fun _ => rfl, rfl⟩ (kln_f_X12_shut N p42.2 41)) (fun p44 => (kvn_ite (kvn_bind (kln_st ⟨fun _ => rfl, rfl⟩ (kln_f_X12_emit N (RS.setA p44.2 22 (((p44.2.a 68 ((x1 : Int32).toNatClampNeg)) : Int32).toNatClampNeg) (p44.2.i 20)) 1 0)) (fun p47 => (kvn_bind (kln_st ⟨fun _ => rfl, rfl⟩ (kln_f_X12_loopGoal N p47.2)) (fun p49 => (kvn_bindv (kvn_st ⟨fun _ => rfl, rfl⟩ (kln_f_X12_body N (RS.setA p49.2 73 ((x1 : Int32).toNatClampNeg) p49.1) 8)) (fun p51 => (kvn_some ⟨fun _ => rfl, rfl⟩))))))) kvn_none))))) (kvn_ite (kvn_ite (kvn_bindv (kvn_st ⟨fun _ => rfl, rfl⟩ (kln_f_X12_patch N σ (σ.a 49 (((σ.a 73 ((x1 : Int32).toNatClampNeg)) : Int32).toNatClampNeg)) (σ.a 70 ((x1 : Int32).toNatClampNeg)))) (fun p55 => (kvn_bind (kln_st ⟨fun _ => rfl, rfl⟩ (kln_f_X12_emit N p55 15 (p55.a 70 ((x1 : Int32).toNatClampNeg)))) (fun p57 => (kvn_ite (kvn_bindv (kvn_st ⟨fun _ => rfl, rfl⟩ (kln_f_X12_patch N (RS.setA p57.2 22 (((p57.2.a 67 ((x1 : Int32).toNatClampNeg)) : Int32).toNatClampNeg) (p57.2.i 20)) (p57.2.a 48 (((σ.a 73 ((x1 : Int32).toNatClampNeg)) : Int32).toNatClampNeg)) (p57.2.i 20))) (fun p60 => (kvn_ite (kvn_bindv (kvn_st ⟨fun _ => rfl, rfl⟩ (kln_f_X12_over N (RS.setI (RS.setI p60 43 ((p60.i 43) - 1)) 38 (p60.a 71 ((x1 : Int32).toNatClampNeg))) 1)) (fun p63 => (kvn_st ⟨fun _ => rfl, rfl⟩ (kln_f_X12_fors_469 N p63)))) (kvn_ite (kvn_bindv (kvn_st ⟨fun _ => rfl, rfl⟩ (kln_f_X12_over N (RS.setI (RS.setI p60 43 ((p60.i 43) - 1)) 38 (p60.a 71 ((x1 : Int32).toNatClampNeg))) 0)) (fun p66 => (kvn_st ⟨fun _ => rfl, rfl⟩ (kln_f_X12_fors_469 N p66)))) (kvn_bindv (kvn_st ⟨fun _ => rfl, rfl⟩ (kln_f_X12_over N (RS.setI (RS.setI p60 43 ((p60.i 43) - 1)) 38 (p60.a 71 ((x1 : Int32).toNatClampNeg))) 1)) (fun p68 => (kvn_st ⟨fun _ => rfl, rfl⟩ (kln_f_X12_fors_469 N p68)))))))) kvn_none))))) kvn_none) (kvn_bindv (kvn_st ⟨fun _ => rfl, rfl⟩ (kln_f_X12_rows N σ x1)) (fun p70 => (kvn_some ⟨fun _ => rfl, rfl⟩)))))))))))) kvn_none)
theorem kln_f_X12_lock_94 (N : Nat) (σ : RS) : KVn σ (f_X12_lock_94 N σ) := by
  unfold f_X12_lock_94
  exact (kvn_bind (kln_st ⟨fun _ => rfl, rfl⟩ (kln_f_X12_shut N σ 41)) (fun p13 => (kvn_bindv (kvn_st ⟨fun _ => rfl, rfl⟩ (kln_f_X12_then N (RS.setI p13.2 52 ((p13.2.i 52) + 1)) 1 3)) (fun p15 => (kvn_some ⟨fun _ => rfl, rfl⟩)))))
theorem kln_f_X12_lock_90 (N : Nat) (σ : RS) : KVn σ (f_X12_lock_90 N σ) := by
  unfold f_X12_lock_90
  exact (kvn_bindv (kvn_st ⟨fun _ => rfl, rfl⟩ (kln_f_X12_next N σ)) (fun p21 => (kvn_st ⟨fun _ => rfl, rfl⟩ (kln_f_X12_lock_94 N p21))))
theorem kln_f_X12_lock_50 (N : Nat) (σ : RS) : KVn σ (f_X12_lock_50 N σ) := by
  unfold f_X12_lock_50
  exact (kvn_ite (kvn_bind (kln_st ⟨fun _ => rfl, rfl⟩ (kln_f_X12_emit N σ 20 1)) (fun p24 => (kvn_st ⟨fun _ => rfl, rfl⟩ (kln_f_X12_lock_90 N p24.2)))) (kvn_bind (kln_st ⟨fun _ => rfl, rfl⟩ (kln_f_X12_emit N σ 26 (σ.i 14))) (fun p19 => (kvn_st ⟨fun _ => rfl, rfl⟩ (kln_f_X12_lock_90 N p19.2)))))
theorem kln_f_X12_lock (N : Nat) (σ : RS) (x1 : Int32) : KVn σ (f_X12_lock N σ x1) := by
  unfold f_X12_lock
  exact (kvn_ite (kvn_ite (kvn_bindv (kvn_st ⟨fun _ => rfl, rfl⟩ (kln_f_X12_next N σ)) (fun p5 => (kvn_bind (kln_st ⟨fun _ => rfl, rfl⟩ (kln_f_X12_open N p5 40)) (fun p7 => (kvn_ite (kvn_bind (kln_st ⟨fun _ => rfl, rfl⟩ (kln_f_X12_can N p7.2 1)) (fun p10 => (kvn_ite (kvn_st ⟨fun _ => rfl, rfl⟩ (kln_f_X12_lock_94 N p10.2)) (kvn_st ⟨fun _ => rfl, rfl⟩ (kln_f_X12_lock_50 N p10.2))))) (kvn_ite (kvn_bind (kln_st ⟨fun _ => rfl, rfl⟩ (kln_f_X12_can N p7.2 1)) (fun p30 => (kvn_ite (kvn_st ⟨fun _ => rfl, rfl⟩ (kln_f_X12_lock_94 N p30.2)) (kvn_st ⟨fun _ => rfl, rfl⟩ (kln_f_X12_lock_50 N p30.2))))) (kvn_bind (kln_st ⟨fun _ => rfl, rfl⟩ (kln_f_X12_can N p7.2 0)) (fun p27 => (kvn_ite (kvn_st ⟨fun _ => rfl, rfl⟩ (kln_f_X12_lock_94 N p27.2)) (kvn_st ⟨fun _ => rfl, rfl⟩ (kln_f_X12_lock_50 N p27.2))))))))))) (kvn_bind (kln_st ⟨fun _ => rfl, rfl⟩ (kln_f_X12_emit N σ 27 0)) (fun p3 => (kvn_some ⟨fun _ => rfl, rfl⟩)))) kvn_none)
theorem kln_f_X12_entry_85 (N : Nat) (σ : RS) (x1 : Int32) : KVn σ (f_X12_entry_85 N σ x1) := by
  unfold f_X12_entry_85
  exact (kvn_ite (kvn_some ⟨fun _ => rfl, rfl⟩) kvn_none)
theorem kln_f_X12_entry (N : Nat) (σ : RS) (x1 : Int32) (x2 : Int32) (x3 : Int32) : KVn σ (f_X12_entry N σ x1 x2 x3) := by
  unfold f_X12_entry
  exact (kvn_ite (kvn_ite (kvn_ite (kvn_ite (kvn_st ⟨fun _ => rfl, rfl⟩ (kln_f_X12_entry_85 N (RS.setA (RS.setA (RS.setA (RS.setA (RS.setA σ 25 (((σ.i 24) : Int32).toNatClampNeg) x2) 26 (((σ.i 24) : Int32).toNatClampNeg) (σ.i 20)) 27 (((σ.i 24) : Int32).toNatClampNeg) (-1)) 28 (((σ.i 24) : Int32).toNatClampNeg) (vp_nar .boolean x3)) 27 (((σ.a 67 ((x1 : Int32).toNatClampNeg)) : Int32).toNatClampNeg) (σ.i 24)) x1)) kvn_none) (kvn_ite (kvn_st ⟨fun _ => rfl, rfl⟩ (kln_f_X12_entry_85 N (RS.setA (RS.setA (RS.setA (RS.setA (RS.setA σ 25 (((σ.i 24) : Int32).toNatClampNeg) x2) 26 (((σ.i 24) : Int32).toNatClampNeg) (σ.i 20)) 27 (((σ.i 24) : Int32).toNatClampNeg) (-1)) 28 (((σ.i 24) : Int32).toNatClampNeg) (vp_nar .boolean x3)) 22 (((σ.a 66 ((x1 : Int32).toNatClampNeg)) : Int32).toNatClampNeg) (σ.i 24)) x1)) kvn_none)) kvn_none) kvn_none)
theorem kln_f_X12_caseNumber_140 (N : Nat) (σ : RS) : KRn σ (f_X12_caseNumber_140 N σ) := by
  unfold f_X12_caseNumber_140
  exact (kln_ite (kln_some ⟨fun _ => rfl, rfl⟩) (kln_some ⟨fun _ => rfl, rfl⟩))
theorem kln_b_X12_caseNumber_75 (N : Nat) (K : RS → Int32 → Int32 → Int32 → Option (Int32 × RS)) (hK : ∀ (σ : RS) (y0 : Int32) (y1 : Int32) (y2 : Int32), KRn σ (K σ y0 y1 y2)) (σ : RS) (x1 : Int32) (x3 : Int32) (x4 : Int32) : KRn σ (b_X12_caseNumber_75 N K σ x1 x3 x4) := by
  unfold b_X12_caseNumber_75
  exact (kln_ite (kln_ite (kln_bindv (kvn_st ⟨fun _ => rfl, rfl⟩ (kln_f_X12_entry N σ x1 x3 0)) (fun p13 => (kln_bindv (kvn_st ⟨fun _ => rfl, rfl⟩ (kln_f_X12_next N p13)) (fun p15 => (kln_st ⟨fun _ => rfl, rfl⟩ (kln_f_X12_caseNumber_140 N p15)))))) (kln_st ⟨fun _ => rfl, rfl⟩ (kln_f_X12_caseNumber_140 N σ))) (kln_ite (kln_ite (kln_ite (kln_bindv (kvn_st ⟨fun _ => rfl, rfl⟩ (kln_f_X12_fail N σ 4 (σ.i 11))) (fun p20 => (kln_st ⟨fun _ => rfl, rfl⟩ (hK p20 x1 x3 (p20.a 27 ((x4 : Int32).toNatClampNeg)))))) (kln_st ⟨fun _ => rfl, rfl⟩ (hK σ x1 x3 (σ.a 27 ((x4 : Int32).toNatClampNeg))))) (kln_st ⟨fun _ => rfl, rfl⟩ (hK σ x1 x3 (σ.a 27 ((x4 : Int32).toNatClampNeg))))) kln_none))
theorem kln_f_X12_caseNumber_75 (N : Nat) : ∀ (n : Nat) (σ : RS) (y0 : Int32) (y1 : Int32) (y2 : Int32), KRn σ (f_X12_caseNumber_75 N n σ y0 y1 y2)
  | 0, _, _, _, _ => kln_none
  | n+1, σ, y0, y1, y2 => kln_b_X12_caseNumber_75 N (f_X12_caseNumber_75 N n) (fun σ y0 y1 y2 => kln_f_X12_caseNumber_75 N n σ y0 y1 y2) σ y0 y1 y2
theorem kln_f_X12_caseNumber_62 (N : Nat) (σ : RS) (x1 : Int32) (x3 : Int32) : KRn σ (f_X12_caseNumber_62 N σ x1 x3) := by
  unfold f_X12_caseNumber_62
  exact (kln_ite (kln_ite (kln_st ⟨fun _ => rfl, rfl⟩ (kln_f_X12_caseNumber_75 N N σ x1 x3 (σ.a 22 (((σ.a 66 ((x1 : Int32).toNatClampNeg)) : Int32).toNatClampNeg)))) kln_none) kln_none)
theorem kln_f_X12_caseNumber_45 (N : Nat) (σ : RS) (x1 : Int32) (x2 : Int32) : KRn σ (f_X12_caseNumber_45 N σ x1 x2) := by
  unfold f_X12_caseNumber_45
  exact (kln_ite (kln_st ⟨fun _ => rfl, rfl⟩ (kln_f_X12_caseNumber_62 N σ x1 (σ.i 14))) (kln_st ⟨fun _ => rfl, rfl⟩ (kln_f_X12_caseNumber_62 N σ x1 (-(σ.i 14)))))
theorem kln_f_X12_caseNumber_43 (N : Nat) (σ : RS) : KRn σ (f_X12_caseNumber_43 N σ) := by
  unfold f_X12_caseNumber_43
  exact (kln_some ⟨fun _ => rfl, rfl⟩)
theorem kln_f_X12_caseNumber_23 (N : Nat) (σ : RS) (x1 : Int32) (x2 : Int32) : KRn σ (f_X12_caseNumber_23 N σ x1 x2) := by
  unfold f_X12_caseNumber_23
  exact (kln_ite (kln_bind (kln_st ⟨fun _ => rfl, rfl⟩ (kln_f_X12_can N σ 1)) (fun p22 => (kln_ite (kln_st ⟨fun _ => rfl, rfl⟩ (kln_f_X12_caseNumber_43 N p22.2)) (kln_st ⟨fun _ => rfl, rfl⟩ (kln_f_X12_caseNumber_45 N p22.2 x1 x2))))) (kln_bind (kln_st ⟨fun _ => rfl, rfl⟩ (kln_f_X12_can N σ 0)) (fun p4 => (kln_ite (kln_st ⟨fun _ => rfl, rfl⟩ (kln_f_X12_caseNumber_43 N p4.2)) (kln_st ⟨fun _ => rfl, rfl⟩ (kln_f_X12_caseNumber_45 N p4.2 x1 x2))))))
theorem kln_f_X12_caseNumber_15 (N : Nat) (σ : RS) (x1 : Int32) (x2 : Int32) : KRn σ (f_X12_caseNumber_15 N σ x1 x2) := by
  unfold f_X12_caseNumber_15
  exact (kln_ite (kln_st ⟨fun _ => rfl, rfl⟩ (kln_f_X12_caseNumber_23 N σ x1 x2)) (kln_bindv (kvn_st ⟨fun _ => rfl, rfl⟩ (kln_f_X12_next N σ)) (fun p25 => (kln_st ⟨fun _ => rfl, rfl⟩ (kln_f_X12_caseNumber_23 N p25 x1 x2)))))
theorem kln_f_X12_caseNumber (N : Nat) (σ : RS) (x1 : Int32) : KRn σ (f_X12_caseNumber N σ x1) := by
  unfold f_X12_caseNumber
  exact (kln_ite (kln_st ⟨fun _ => rfl, rfl⟩ (kln_f_X12_caseNumber_15 N σ x1 1)) (kln_st ⟨fun _ => rfl, rfl⟩ (kln_f_X12_caseNumber_15 N σ x1 0)))
theorem kln_f_X12_groups_335 (N : Nat) (σ : RS) : KVn σ (f_X12_groups_335 N σ) := by
  unfold f_X12_groups_335
  exact (kvn_some ⟨fun _ => rfl, rfl⟩)
theorem kln_f_X12_groups_356 (N : Nat) (σ : RS) (x1 : Int32) : KVn σ (f_X12_groups_356 N σ x1) := by
  unfold f_X12_groups_356
  exact (kvn_ite (kvn_some ⟨fun _ => rfl, rfl⟩) kvn_none)
theorem kln_f_X12_groups (N : Nat) (σ : RS) (x1 : Int32) : KVn σ (f_X12_groups N σ x1) := by
  unfold f_X12_groups
  exact (kvn_ite (kvn_ite (kvn_bindv (kvn_st ⟨fun _ => rfl, rfl⟩ (kln_f_X12_next N σ)) (fun p3 => (kvn_bind (kln_st ⟨fun _ => rfl, rfl⟩ (kln_f_X12_open N p3 40)) (fun p5 => (kvn_bindv (kvn_st ⟨fun _ => rfl, rfl⟩ (kln_f_X12_then N p5.2 1 16)) (fun p7 => (kvn_some ⟨fun _ => rfl, rfl⟩))))))) (kvn_ite (kvn_bind (kln_st ⟨fun _ => rfl, rfl⟩ (kln_f_X12_shut N σ 41)) (fun p10 => (kvn_bind (kln_st ⟨fun _ => rfl, rfl⟩ (kln_f_X12_emit N p10.2 28 (-1))) (fun p12 => (kvn_bind (kln_st ⟨fun _ => rfl, rfl⟩ (kln_f_X12_goal N (RS.setA (RS.setA (RS.setA (RS.setA (RS.setA p12.2 66 ((x1 : Int32).toNatClampNeg) p12.1) 67 ((x1 : Int32).toNatClampNeg) (-1)) 68 ((x1 : Int32).toNatClampNeg) 0) 70 ((x1 : Int32).toNatClampNeg) 1) 71 ((x1 : Int32).toNatClampNeg) (p12.2.i 38)) 1 0)) (fun p14 => (kvn_bind (kln_st ⟨fun _ => rfl, rfl⟩ (kln_f_X12_open N (RS.setA p14.2 72 ((x1 : Int32).toNatClampNeg) p14.1) 123)) (fun p16 => (kvn_some ⟨fun _ => rfl, rfl⟩))))))))) (kvn_ite (kvn_ite (kvn_bindv (kvn_st ⟨fun _ => rfl, rfl⟩ (kln_f_X12_next N σ)) (fun p49 => (kvn_bind (kln_st ⟨fun _ => rfl, rfl⟩ (kln_f_X12_caseNumber N p49 x1)) (fun p51 => (kvn_ite (kvn_some ⟨fun _ => rfl, rfl⟩) (kvn_bind (kln_st ⟨fun _ => rfl, rfl⟩ (kln_f_X12_need N p51.2 58)) (fun p54 => (kvn_bindv (kvn_st ⟨fun _ => rfl, rfl⟩ (kln_f_X12_then N p54.2 3 1)) (fun p56 => (kvn_some ⟨fun _ => rfl, rfl⟩)))))))))) (kvn_ite (kvn_ite (kvn_bindv (kvn_st ⟨fun _ => rfl, rfl⟩ (kln_f_X12_fail N σ 4 (σ.i 11))) (fun p47 => (kvn_some ⟨fun _ => rfl, rfl⟩))) (kvn_bindv (kvn_st ⟨fun _ => rfl, rfl⟩ (kln_f_X12_entry N (RS.setA σ 68 ((x1 : Int32).toNatClampNeg) 1) x1 0 1)) (fun p39 => (kvn_bindv (kvn_st ⟨fun _ => rfl, rfl⟩ (kln_f_X12_next N p39)) (fun p41 => (kvn_bind (kln_st ⟨fun _ => rfl, rfl⟩ (kln_f_X12_need N p41 58)) (fun p43 => (kvn_bindv (kvn_st ⟨fun _ => rfl, rfl⟩ (kln_f_X12_then N p43.2 3 1)) (fun p45 => (kvn_some ⟨fun _ => rfl, rfl⟩)))))))))) (kvn_bind (kln_st ⟨fun _ => rfl, rfl⟩ (kln_f_X12_shut N σ 125)) (fun p21 => (kvn_ite (kvn_ite (kvn_bindv (kvn_st ⟨fun _ => rfl, rfl⟩ (kln_f_X12_patch N (RS.setA p21.2 23 (((p21.2.a 66 ((x1 : Int32).toNatClampNeg)) : Int32).toNatClampNeg) (p21.2.i 20)) (p21.2.a 48 (((p21.2.a 72 ((x1 : Int32).toNatClampNeg)) : Int32).toNatClampNeg)) (p21.2.i 20))) (fun p25 => (kvn_ite (kvn_bindv (kvn_st ⟨fun _ => rfl, rfl⟩ (kln_f_X12_over N (RS.setI (RS.setI p25 43 ((p25.i 43) - 1)) 38 (p25.a 71 ((x1 : Int32).toNatClampNeg))) 1)) (fun p28 => (kvn_st ⟨fun _ => rfl, rfl⟩ (kln_f_X12_groups_335 N p28)))) (kvn_ite (kvn_bindv (kvn_st ⟨fun _ => rfl, rfl⟩ (kln_f_X12_over N (RS.setI (RS.setI p25 43 ((p25.i 43) - 1)) 38 (p25.a 71 ((x1 : Int32).toNatClampNeg))) 1)) (fun p31 => (kvn_st ⟨fun _ => rfl, rfl⟩ (kln_f_X12_groups_335 N p31)))) (kvn_ite (kvn_bindv (kvn_st ⟨fun _ => rfl, rfl⟩ (kln_f_X12_over N (RS.setI (RS.setI p25 43 ((p25.i 43) - 1)) 38 (p25.a 71 ((x1 : Int32).toNatClampNeg))) 0)) (fun p34 => (kvn_st ⟨fun _ => rfl, rfl⟩ (kln_f_X12_groups_335 N p34)))) (kvn_bindv (kvn_st ⟨fun _ => rfl, rfl⟩ (kln_f_X12_over N (RS.setI (RS.setI p25 43 ((p25.i 43) - 1)) 38 (p25.a 71 ((x1 : Int32).toNatClampNeg))) 1)) (fun p36 => (kvn_st ⟨fun _ => rfl, rfl⟩ (kln_f_X12_groups_335 N p36))))))))) kvn_none) kvn_none))))) (kvn_ite (kvn_st ⟨fun _ => rfl, rfl⟩ (kln_f_X12_groups_356 N (RS.setA σ 70 ((x1 : Int32).toNatClampNeg) 0) x1)) (kvn_st ⟨fun _ => rfl, rfl⟩ (kln_f_X12_groups_356 N (RS.setA σ 70 ((x1 : Int32).toNatClampNeg) 1) x1)))))) kvn_none)
theorem kln_b_X12_catching_323 (N : Nat) (K : RS → Int32 → Int32 → Option (RS)) (hK : ∀ (σ : RS) (y0 : Int32) (y1 : Int32), KVn σ (K σ y0 y1)) (σ : RS) (x4 : Int32) (x5 : Int32) : KVn σ (b_X12_catching_323 N K σ x4 x5) := by
  unfold b_X12_catching_323
  exact (kvn_ite (kvn_bindv (kvn_st ⟨fun _ => rfl, rfl⟩ (kln_f_X12_then N σ 3 3)) (fun p20 => (kvn_some ⟨fun _ => rfl, rfl⟩))) (kvn_ite (kvn_st ⟨fun _ => rfl, rfl⟩ (hK (RS.setA (RS.setA σ 35 ((x5 : Int32).toNatClampNeg) (σ.i 20)) 36 ((x5 : Int32).toNatClampNeg) x4) x4 (x5 + 1))) kvn_none))
theorem kln_f_X12_catching_323 (N : Nat) : ∀ (n : Nat) (σ : RS) (y0 : Int32) (y1 : Int32), KVn σ (f_X12_catching_323 N n σ y0 y1)
  | 0, _, _, _ => kvn_none
  | n+1, σ, y0, y1 => kln_b_X12_catching_323 N (f_X12_catching_323 N n) (fun σ y0 y1 => kln_f_X12_catching_323 N n σ y0 y1) σ y0 y1
theorem kln_f_X12_catching_277 (N : Nat) (σ : RS) (x2 : Int32) : KVn σ (f_X12_catching_277 N σ x2) := by
  unfold f_X12_catching_277
  exact (kvn_bind (kln_st ⟨fun _ => rfl, rfl⟩ (kln_f_X12_seenAs N σ σ.l)) (fun p10 => (kvn_ite (kvn_bind (kln_st ⟨fun _ => rfl, rfl⟩ (kln_f_X12_see N p10.2 p10.2.l 1)) (fun p13 => (kvn_bindv (kvn_st ⟨fun _ => rfl, rfl⟩ (kln_f_X12_next N p13.2)) (fun p15 => (kvn_bind (kln_st ⟨fun _ => rfl, rfl⟩ (kln_f_X12_shut N p15 41)) (fun p17 => (kvn_st ⟨fun _ => rfl, rfl⟩ (kln_f_X12_catching_323 N N p17.2 p13.1 x2)))))))) (kvn_bindv (kvn_st ⟨fun _ => rfl, rfl⟩ (kln_f_X12_fail N p10.2 4 (p10.2.i 11))) (fun p23 => (kvn_some ⟨fun _ => rfl, rfl⟩))))))
theorem kln_f_X12_catching_256 (N : Nat) (σ : RS) (x2 : Int32) : KVn σ (f_X12_catching_256 N σ x2) := by
  unfold f_X12_catching_256
  exact (kvn_ite (kvn_bind (kln_st ⟨fun _ => rfl, rfl⟩ (kln_f_X12_can N σ 1)) (fun p25 => (kvn_ite (kvn_some ⟨fun _ => rfl, rfl⟩) (kvn_st ⟨fun _ => rfl, rfl⟩ (kln_f_X12_catching_277 N p25.2 x2))))) (kvn_bind (kln_st ⟨fun _ => rfl, rfl⟩ (kln_f_X12_can N σ 0)) (fun p7 => (kvn_ite (kvn_some ⟨fun _ => rfl, rfl⟩) (kvn_st ⟨fun _ => rfl, rfl⟩ (kln_f_X12_catching_277 N p7.2 x2))))))
theorem kln_b_X12_catching_82 (N : Nat) (K18 : RS → Int32 → Int32 → Int32 → Option (RS)) (hK18 : ∀ (σ : RS) (y0 : Int32) (y1 : Int32) (y2 : Int32), KVn σ (K18 σ y0 y1 y2)) (K : RS → Int32 → Int32 → Int32 → Option (RS)) (hK : ∀ (σ : RS) (y0 : Int32) (y1 : Int32) (y2 : Int32), KVn σ (K σ y0 y1 y2)) (σ : RS) (x1 : Int32) (x2 : Int32) (x4 : Int32) : KVn σ (b_X12_catching_82 N K18 K σ x1 x2 x4) := by
  unfold b_X12_catching_82
  exact (kvn_ite (kvn_ite (kvn_ite (kvn_ite (kvn_ite (kvn_bindv (kvn_st ⟨fun _ => rfl, rfl⟩ (kln_f_X12_next N (RS.setI (RS.setA (RS.setA (RS.setA (RS.setA σ 34 (((σ.i 33) : Int32).toNatClampNeg) (σ.i 14)) 37 (((σ.i 33) : Int32).toNatClampNeg) (-1)) 37 (((σ.a 72 ((x1 : Int32).toNatClampNeg)) : Int32).toNatClampNeg) (σ.i 33)) 72 ((x1 : Int32).toNatClampNeg) (σ.i 33)) 33 ((σ.i 33) + 1)))) (fun p41 => (kvn_ite (kvn_ite (kvn_bindv (kvn_st ⟨fun _ => rfl, rfl⟩ (kln_f_X12_next N p41)) (fun p45 => (kvn_st ⟨fun _ => rfl, rfl⟩ (hK18 p45 x1 x2 1)))) (kvn_st ⟨fun _ => rfl, rfl⟩ (hK18 p41 x1 x2 0))) (kvn_st ⟨fun _ => rfl, rfl⟩ (hK18 p41 x1 x2 0))))) kvn_none) (kvn_ite (kvn_bindv (kvn_st ⟨fun _ => rfl, rfl⟩ (kln_f_X12_next N (RS.setI (RS.setA (RS.setA (RS.setA (RS.setA σ 34 (((σ.i 33) : Int32).toNatClampNeg) (σ.i 14)) 37 (((σ.i 33) : Int32).toNatClampNeg) (-1)) 30 (((σ.a 66 ((x1 : Int32).toNatClampNeg)) : Int32).toNatClampNeg) (σ.i 33)) 72 ((x1 : Int32).toNatClampNeg) (σ.i 33)) 33 ((σ.i 33) + 1)))) (fun p48 => (kvn_ite (kvn_ite (kvn_bindv (kvn_st ⟨fun _ => rfl, rfl⟩ (kln_f_X12_next N p48)) (fun p52 => (kvn_st ⟨fun _ => rfl, rfl⟩ (hK18 p52 x1 x2 1)))) (kvn_st ⟨fun _ => rfl, rfl⟩ (hK18 p48 x1 x2 0))) (kvn_st ⟨fun _ => rfl, rfl⟩ (hK18 p48 x1 x2 0))))) kvn_none)) kvn_none) kvn_none) (kvn_ite (kvn_ite (kvn_bind (kln_st ⟨fun _ => rfl, rfl⟩ (kln_f_X12_isUnder N σ (σ.i 14) (σ.a 34 ((x4 : Int32).toNatClampNeg)))) (fun p73 => (kvn_ite (kvn_st ⟨fun _ => rfl, rfl⟩ (hK p73.2 x1 x2 (p73.2.a 37 ((x4 : Int32).toNatClampNeg)))) (kvn_bindv (kvn_st ⟨fun _ => rfl, rfl⟩ (kln_f_X12_fail N p73.2 6 (p73.2.i 11))) (fun p76 => (kvn_st ⟨fun _ => rfl, rfl⟩ (hK p76 x1 x2 (p76.a 37 ((x4 : Int32).toNatClampNeg))))))))) kvn_none) (kvn_ite (kvn_ite (kvn_ite (kvn_ite (kvn_bindv (kvn_st ⟨fun _ => rfl, rfl⟩ (kln_f_X12_next N (RS.setI (RS.setA (RS.setA (RS.setA (RS.setA σ 34 (((σ.i 33) : Int32).toNatClampNeg) (σ.i 14)) 37 (((σ.i 33) : Int32).toNatClampNeg) (-1)) 37 (((σ.a 72 ((x1 : Int32).toNatClampNeg)) : Int32).toNatClampNeg) (σ.i 33)) 72 ((x1 : Int32).toNatClampNeg) (σ.i 33)) 33 ((σ.i 33) + 1)))) (fun p59 => (kvn_ite (kvn_ite (kvn_bindv (kvn_st ⟨fun _ => rfl, rfl⟩ (kln_f_X12_next N p59)) (fun p63 => (kvn_st ⟨fun _ => rfl, rfl⟩ (hK18 p63 x1 x2 1)))) (kvn_st ⟨fun _ => rfl, rfl⟩ (hK18 p59 x1 x2 0))) (kvn_st ⟨fun _ => rfl, rfl⟩ (hK18 p59 x1 x2 0))))) kvn_none) (kvn_ite (kvn_bindv (kvn_st ⟨fun _ => rfl, rfl⟩ (kln_f_X12_next N (RS.setI (RS.setA (RS.setA (RS.setA (RS.setA σ 34 (((σ.i 33) : Int32).toNatClampNeg) (σ.i 14)) 37 (((σ.i 33) : Int32).toNatClampNeg) (-1)) 30 (((σ.a 66 ((x1 : Int32).toNatClampNeg)) : Int32).toNatClampNeg) (σ.i 33)) 72 ((x1 : Int32).toNatClampNeg) (σ.i 33)) 33 ((σ.i 33) + 1)))) (fun p66 => (kvn_ite (kvn_ite (kvn_bindv (kvn_st ⟨fun _ => rfl, rfl⟩ (kln_f_X12_next N p66)) (fun p70 => (kvn_st ⟨fun _ => rfl, rfl⟩ (hK18 p70 x1 x2 1)))) (kvn_st ⟨fun _ => rfl, rfl⟩ (hK18 p66 x1 x2 0))) (kvn_st ⟨fun _ => rfl, rfl⟩ (hK18 p66 x1 x2 0))))) kvn_none)) kvn_none) kvn_none)))
theorem kln_f_X12_catching_82 (N : Nat) (K18 : RS → Int32 → Int32 → Int32 → Option (RS)) (hK18 : ∀ (σ : RS) (w0 : Int32) (w1 : Int32) (w2 : Int32), KVn σ (K18 σ w0 w1 w2)) : ∀ (n : Nat) (σ : RS) (y0 : Int32) (y1 : Int32) (y2 : Int32), KVn σ (f_X12_catching_82 N K18 n σ y0 y1 y2)
  | 0, _, _, _, _ => kvn_none
  | n+1, σ, y0, y1, y2 => kln_b_X12_catching_82 N K18 hK18 (f_X12_catching_82 N K18 n) (fun σ y0 y1 y2 => kln_f_X12_catching_82 N K18 hK18 n σ y0 y1 y2) σ y0 y1 y2
theorem kln_b_X12_catching_18 (N : Nat) (K : RS → Int32 → Int32 → Int32 → Option (RS)) (hK : ∀ (σ : RS) (y0 : Int32) (y1 : Int32) (y2 : Int32), KVn σ (K σ y0 y1 y2)) (σ : RS) (x1 : Int32) (x2 : Int32) (x3 : Int32) : KVn σ (b_X12_catching_18 N K σ x1 x2 x3) := by
  unfold b_X12_catching_18
  exact (kvn_ite (kvn_st ⟨fun _ => rfl, rfl⟩ (kln_f_X12_catching_256 N σ x2)) (kvn_ite (kvn_ite (kvn_bind (kln_st ⟨fun _ => rfl, rfl⟩ (kln_f_X12_can N σ 1)) (fun p82 => (kvn_ite (kvn_st ⟨fun _ => rfl, rfl⟩ (hK p82.2 x1 x2 x3)) (kvn_ite (kvn_ite (kvn_ite (kvn_st ⟨fun _ => rfl, rfl⟩ (kln_f_X12_catching_82 N K hK N p82.2 x1 x2 (p82.2.a 30 (((p82.2.a 66 ((x1 : Int32).toNatClampNeg)) : Int32).toNatClampNeg)))) kvn_none) kvn_none) (kvn_bindv (kvn_st ⟨fun _ => rfl, rfl⟩ (kln_f_X12_fail N p82.2 3 (p82.2.i 11))) (fun p88 => (kvn_ite (kvn_ite (kvn_st ⟨fun _ => rfl, rfl⟩ (kln_f_X12_catching_82 N K hK N p88 x1 x2 (p88.a 30 (((p88.a 66 ((x1 : Int32).toNatClampNeg)) : Int32).toNatClampNeg)))) kvn_none) kvn_none))))))) (kvn_bind (kln_st ⟨fun _ => rfl, rfl⟩ (kln_f_X12_can N σ 0)) (fun p30 => (kvn_ite (kvn_st ⟨fun _ => rfl, rfl⟩ (hK p30.2 x1 x2 x3)) (kvn_ite (kvn_ite (kvn_ite (kvn_st ⟨fun _ => rfl, rfl⟩ (kln_f_X12_catching_82 N K hK N p30.2 x1 x2 (p30.2.a 30 (((p30.2.a 66 ((x1 : Int32).toNatClampNeg)) : Int32).toNatClampNeg)))) kvn_none) kvn_none) (kvn_bindv (kvn_st ⟨fun _ => rfl, rfl⟩ (kln_f_X12_fail N p30.2 3 (p30.2.i 11))) (fun p78 => (kvn_ite (kvn_ite (kvn_st ⟨fun _ => rfl, rfl⟩ (kln_f_X12_catching_82 N K hK N p78 x1 x2 (p78.a 30 (((p78.a 66 ((x1 : Int32).toNatClampNeg)) : Int32).toNatClampNeg)))) kvn_none) kvn_none)))))))) (kvn_st ⟨fun _ => rfl, rfl⟩ (kln_f_X12_catching_256 N σ x2))))
theorem kln_f_X12_catching_18 (N : Nat) : ∀ (n : Nat) (σ : RS) (y0 : Int32) (y1 : Int32) (y2 : Int32), KVn σ (f_X12_catching_18 N n σ y0 y1 y2)
  | 0, _, _, _, _ => kvn_none
  | n+1, σ, y0, y1, y2 => kln_b_X12_catching_18 N (f_X12_catching_18 N n) (fun σ y0 y1 y2 => kln_f_X12_catching_18 N n σ y0 y1 y2) σ y0 y1 y2
theorem kln_f_X12_catching (N : Nat) (σ : RS) (x1 : Int32) : KVn σ (f_X12_catching N σ x1) := by
  unfold f_X12_catching
  exact (kvn_bindv (kvn_st ⟨fun _ => rfl, rfl⟩ (kln_f_X12_next N σ)) (fun p1 => (kvn_bind (kln_st ⟨fun _ => rfl, rfl⟩ (kln_f_X12_open N p1 40)) (fun p3 => (kvn_st ⟨fun _ => rfl, rfl⟩ (kln_f_X12_catching_18 N N p3.2 x1 (σ.i 33) 1))))))
theorem kln_f_X12_endTry (N : Nat) (σ : RS) (x1 : Int32) (x2 : Int32) : KVn σ (f_X12_endTry N σ x1 x2) := by
  unfold f_X12_endTry
  exact (kvn_ite (kvn_ite (kvn_bindv (kvn_st ⟨fun _ => rfl, rfl⟩ (kln_f_X12_resolve N (RS.setA (RS.setI σ 52 ((σ.i 52) - 1)) 32 (((σ.a 66 ((x1 : Int32).toNatClampNeg)) : Int32).toNatClampNeg) (σ.i 20)) (σ.a 66 ((x1 : Int32).toNatClampNeg)) x2)) (fun p3 => (kvn_ite (kvn_bindv (kvn_st ⟨fun _ => rfl, rfl⟩ (kln_f_X12_over N p3 0)) (fun p6 => (kvn_some ⟨fun _ => rfl, rfl⟩))) (kvn_ite (kvn_bindv (kvn_st ⟨fun _ => rfl, rfl⟩ (kln_f_X12_over N p3 1)) (fun p11 => (kvn_some ⟨fun _ => rfl, rfl⟩))) (kvn_bindv (kvn_st ⟨fun _ => rfl, rfl⟩ (kln_f_X12_over N p3 0)) (fun p9 => (kvn_some ⟨fun _ => rfl, rfl⟩))))))) kvn_none) kvn_none)
theorem kln_f_X12_trying_215 (N : Nat) (σ : RS) (x1 : Int32) : KVn σ (f_X12_trying_215 N σ x1) := by
  unfold f_X12_trying_215
  exact (kvn_ite (kvn_ite (kvn_bindv (kvn_st ⟨fun _ => rfl, rfl⟩ (kln_f_X12_then N (RS.setA (RS.setI (RS.setA (RS.setA σ 57 (((σ.i 56) : Int32).toNatClampNeg) (σ.a 66 ((x1 : Int32).toNatClampNeg))) 58 (((σ.i 56) : Int32).toNatClampNeg) (σ.i 43)) 56 ((σ.i 56) + 1)) 72 ((x1 : Int32).toNatClampNeg) (-1)) 1 3)) (fun p13 => (kvn_some ⟨fun _ => rfl, rfl⟩))) kvn_none) kvn_none)
theorem kln_b_X12_trying_140 (N : Nat) (K : RS → Int32 → Int32 → Option (RS)) (hK : ∀ (σ : RS) (y0 : Int32) (y1 : Int32), KVn σ (K σ y0 y1)) (σ : RS) (x1 : Int32) (x2 : Int32) : KVn σ (b_X12_trying_140 N K σ x1 x2) := by
  unfold b_X12_trying_140
  exact (kvn_ite (kvn_st ⟨fun _ => rfl, rfl⟩ (kln_f_X12_trying_215 N σ x1)) (kvn_ite (kvn_bindv (kvn_st ⟨fun _ => rfl, rfl⟩ (kln_f_X12_next N σ)) (fun p16 => (kvn_ite (kvn_bind (kln_st ⟨fun _ => rfl, rfl⟩ (kln_f_X12_can N p16 1)) (fun p30 => (kvn_ite (kvn_ite (kvn_ite (kvn_st ⟨fun _ => rfl, rfl⟩ (hK p30.2 x1 1)) (kvn_st ⟨fun _ => rfl, rfl⟩ (hK p30.2 x1 0))) (kvn_st ⟨fun _ => rfl, rfl⟩ (hK p30.2 x1 0))) (kvn_bind (kln_st ⟨fun _ => rfl, rfl⟩ (kln_f_X12_emit N p30.2 32 (p30.2.i 14))) (fun p35 => (kvn_bindv (kvn_st ⟨fun _ => rfl, rfl⟩ (kln_f_X12_next N p35.2)) (fun p37 => (kvn_ite (kvn_ite (kvn_st ⟨fun _ => rfl, rfl⟩ (hK p37 x1 1)) (kvn_st ⟨fun _ => rfl, rfl⟩ (hK p37 x1 0))) (kvn_st ⟨fun _ => rfl, rfl⟩ (hK p37 x1 0)))))))))) (kvn_bind (kln_st ⟨fun _ => rfl, rfl⟩ (kln_f_X12_can N p16 0)) (fun p19 => (kvn_ite (kvn_ite (kvn_ite (kvn_st ⟨fun _ => rfl, rfl⟩ (hK p19.2 x1 1)) (kvn_st ⟨fun _ => rfl, rfl⟩ (hK p19.2 x1 0))) (kvn_st ⟨fun _ => rfl, rfl⟩ (hK p19.2 x1 0))) (kvn_bind (kln_st ⟨fun _ => rfl, rfl⟩ (kln_f_X12_emit N p19.2 32 (p19.2.i 14))) (fun p24 => (kvn_bindv (kvn_st ⟨fun _ => rfl, rfl⟩ (kln_f_X12_next N p24.2)) (fun p26 => (kvn_ite (kvn_ite (kvn_st ⟨fun _ => rfl, rfl⟩ (hK p26 x1 1)) (kvn_st ⟨fun _ => rfl, rfl⟩ (hK p26 x1 0))) (kvn_st ⟨fun _ => rfl, rfl⟩ (hK p26 x1 0))))))))))))) (kvn_st ⟨fun _ => rfl, rfl⟩ (kln_f_X12_trying_215 N σ x1))))
theorem kln_f_X12_trying_140 (N : Nat) : ∀ (n : Nat) (σ : RS) (y0 : Int32) (y1 : Int32), KVn σ (f_X12_trying_140 N n σ y0 y1)
  | 0, _, _, _ => kvn_none
  | n+1, σ, y0, y1 => kln_b_X12_trying_140 N (f_X12_trying_140 N n) (fun σ y0 y1 => kln_f_X12_trying_140 N n σ y0 y1) σ y0 y1
theorem kln_f_X12_trying_124 (N : Nat) (σ : RS) (x1 : Int32) : KVn σ (f_X12_trying_124 N σ x1) := by
  unfold f_X12_trying_124
  exact (kvn_ite (kvn_st ⟨fun _ => rfl, rfl⟩ (kln_f_X12_trying_140 N N σ x1 1)) (kvn_st ⟨fun _ => rfl, rfl⟩ (kln_f_X12_trying_140 N N σ x1 0)))
theorem kln_f_X12_trying_287 (N : Nat) (σ : RS) (x1 : Int32) : KVn σ (f_X12_trying_287 N σ x1) := by
  unfold f_X12_trying_287
  exact (kvn_ite (kvn_bind (kln_st ⟨fun _ => rfl, rfl⟩ (kln_f_X12_emit N σ 33 (σ.a 66 ((x1 : Int32).toNatClampNeg)))) (fun p44 => (kvn_some ⟨fun _ => rfl, rfl⟩))) kvn_none)
theorem kln_f_X12_trying_417 (N : Nat) (σ : RS) (x1 : Int32) : KVn σ (f_X12_trying_417 N σ x1) := by
  unfold f_X12_trying_417
  exact (kvn_bindv (kvn_st ⟨fun _ => rfl, rfl⟩ (kln_f_X12_endTry N (RS.setI σ 56 ((σ.i 56) - 1)) x1 1)) (fun p53 => (kvn_some ⟨fun _ => rfl, rfl⟩)))
theorem kln_f_X12_trying_464 (N : Nat) (σ : RS) (x1 : Int32) : KVn σ (f_X12_trying_464 N σ x1) := by
  unfold f_X12_trying_464
  exact (kvn_ite (kvn_bind (kln_st ⟨fun _ => rfl, rfl⟩ (kln_f_X12_emit N σ 34 (σ.a 66 ((x1 : Int32).toNatClampNeg)))) (fun p72 => (kvn_some ⟨fun _ => rfl, rfl⟩))) kvn_none)
theorem kln_f_X12_trying (N : Nat) (σ : RS) (x1 : Int32) : KVn σ (f_X12_trying N σ x1) := by
  unfold f_X12_trying
  exact (kvn_ite (kvn_ite (kvn_bindv (kvn_st ⟨fun _ => rfl, rfl⟩ (kln_f_X12_next N σ)) (fun p3 => (kvn_ite (kvn_bind (kln_st ⟨fun _ => rfl, rfl⟩ (kln_f_X12_emit N (RS.setI (RS.setA (RS.setA (RS.setA p3 66 ((x1 : Int32).toNatClampNeg) (p3.i 29)) 30 (((p3.i 29) : Int32).toNatClampNeg) (-1)) 31 (((p3.i 29) : Int32).toNatClampNeg) (-1)) 29 ((p3.i 29) + 1)) 31 ((upd (p3.a 66) ((x1 : Int32).toNatClampNeg) (p3.i 29)) ((x1 : Int32).toNatClampNeg)))) (fun p6 => (kvn_ite (kvn_st ⟨fun _ => rfl, rfl⟩ (kln_f_X12_trying_124 N (RS.setA (RS.setI p6.2 52 ((p6.2.i 52) + 1)) 67 ((x1 : Int32).toNatClampNeg) 1) x1)) (kvn_st ⟨fun _ => rfl, rfl⟩ (kln_f_X12_trying_124 N (RS.setA (RS.setI p6.2 52 ((p6.2.i 52) + 1)) 67 ((x1 : Int32).toNatClampNeg) 0) x1))))) kvn_none))) (kvn_ite (kvn_ite (kvn_st ⟨fun _ => rfl, rfl⟩ (kln_f_X12_trying_287 N (RS.setA σ 68 ((x1 : Int32).toNatClampNeg) 0) x1)) (kvn_st ⟨fun _ => rfl, rfl⟩ (kln_f_X12_trying_287 N (RS.setA σ 68 ((x1 : Int32).toNatClampNeg) 1) x1))) (kvn_ite (kvn_ite (kvn_bindv (kvn_st ⟨fun _ => rfl, rfl⟩ (kln_f_X12_catching N (RS.setA σ 71 ((x1 : Int32).toNatClampNeg) (σ.i 38)) x1)) (fun p67 => (kvn_some ⟨fun _ => rfl, rfl⟩))) (kvn_ite (kvn_bindv (kvn_st ⟨fun _ => rfl, rfl⟩ (kln_f_X12_next N (RS.setI σ 56 ((σ.i 56) - 1)))) (fun p62 => (kvn_ite (kvn_bindv (kvn_st ⟨fun _ => rfl, rfl⟩ (kln_f_X12_then N (RS.setA p62 31 (((p62.a 66 ((x1 : Int32).toNatClampNeg)) : Int32).toNatClampNeg) (p62.i 20)) 4 3)) (fun p65 => (kvn_some ⟨fun _ => rfl, rfl⟩))) kvn_none))) (kvn_ite (kvn_bind (kln_st ⟨fun _ => rfl, rfl⟩ (kln_f_X12_can N σ 1)) (fun p50 => (kvn_ite (kvn_some ⟨fun _ => rfl, rfl⟩) (kvn_st ⟨fun _ => rfl, rfl⟩ (kln_f_X12_trying_417 N p50.2 x1))))) (kvn_ite (kvn_bind (kln_st ⟨fun _ => rfl, rfl⟩ (kln_f_X12_can N σ 0)) (fun p56 => (kvn_ite (kvn_some ⟨fun _ => rfl, rfl⟩) (kvn_st ⟨fun _ => rfl, rfl⟩ (kln_f_X12_trying_417 N p56.2 x1))))) (kvn_bind (kln_st ⟨fun _ => rfl, rfl⟩ (kln_f_X12_can N σ 1)) (fun p59 => (kvn_ite (kvn_some ⟨fun _ => rfl, rfl⟩) (kvn_st ⟨fun _ => rfl, rfl⟩ (kln_f_X12_trying_417 N p59.2 x1))))))))) (kvn_ite (kvn_ite (kvn_ite (kvn_st ⟨fun _ => rfl, rfl⟩ (kln_f_X12_trying_464 N (RS.setA σ 68 ((x1 : Int32).toNatClampNeg) 1) x1)) (kvn_st ⟨fun _ => rfl, rfl⟩ (kln_f_X12_trying_464 N (RS.setA σ 68 ((x1 : Int32).toNatClampNeg) 0) x1))) (kvn_st ⟨fun _ => rfl, rfl⟩ (kln_f_X12_trying_464 N (RS.setA σ 68 ((x1 : Int32).toNatClampNeg) 1) x1))) (kvn_bind (kln_st ⟨fun _ => rfl, rfl⟩ (kln_f_X12_emit N σ 35 (σ.a 66 ((x1 : Int32).toNatClampNeg)))) (fun p75 => (kvn_bindv (kvn_st ⟨fun _ => rfl, rfl⟩ (kln_f_X12_endTry N p75.2 x1 (p75.2.i 75))) (fun p77 => (kvn_some ⟨fun _ => rfl, rfl⟩))))))))) kvn_none)
theorem kln_f_X12_sums_39 (N : Nat) (σ : RS) (x1 : Int32) (x2 : Int32) (x3 : Int32) : KVn σ (f_X12_sums_39 N σ x1 x2 x3) := by
  unfold f_X12_sums_39
  exact (kvn_ite (kvn_some ⟨fun _ => rfl, rfl⟩) (kvn_ite (kvn_bindv (kvn_st ⟨fun _ => rfl, rfl⟩ (kln_f_X12_next N (RS.setA σ 66 ((x1 : Int32).toNatClampNeg) (σ.i 10)))) (fun p6 => (kvn_bindv (kvn_st ⟨fun _ => rfl, rfl⟩ (kln_f_X12_then N p6 2 x2)) (fun p8 => (kvn_some ⟨fun _ => rfl, rfl⟩))))) kvn_none))
theorem kln_f_X12_sums (N : Nat) (σ : RS) (x1 : Int32) (x2 : Int32) (x3 : Int32) : KVn σ (f_X12_sums N σ x1 x2 x3) := by
  unfold f_X12_sums
  exact (kvn_ite (kvn_ite (kvn_bindv (kvn_st ⟨fun _ => rfl, rfl⟩ (kln_f_X12_then N σ 1 x2)) (fun p12 => (kvn_some ⟨fun _ => rfl, rfl⟩))) (kvn_ite (kvn_bind (kln_st ⟨fun _ => rfl, rfl⟩ (kln_f_X12_emit N σ 8 (σ.a 66 ((x1 : Int32).toNatClampNeg)))) (fun p10 => (kvn_st ⟨fun _ => rfl, rfl⟩ (kln_f_X12_sums_39 N p10.2 x1 x2 x3)))) (kvn_st ⟨fun _ => rfl, rfl⟩ (kln_f_X12_sums_39 N σ x1 x2 x3)))) kvn_none)
theorem kln_f_X12_factor_215 (N : Nat) (σ : RS) : KVn σ (f_X12_factor_215 N σ) := by
  unfold f_X12_factor_215
  exact (kvn_bindv (kvn_st ⟨fun _ => rfl, rfl⟩ (kln_f_X12_next N σ)) (fun p31 => (kvn_some ⟨fun _ => rfl, rfl⟩)))
theorem kln_f_X12_factor_124 (N : Nat) (σ : RS) (x1 : Int32) : KVn σ (f_X12_factor_124 N σ x1) := by
  unfold f_X12_factor_124
  exact (kvn_ite (kvn_bind (kln_st ⟨fun _ => rfl, rfl⟩ (kln_f_X12_emit N σ 2 (σ.i 14))) (fun p37 => (kvn_bindv (kvn_st ⟨fun _ => rfl, rfl⟩ (kln_f_X12_next N p37.2)) (fun p39 => (kvn_some ⟨fun _ => rfl, rfl⟩))))) (kvn_ite (kvn_bind (kln_st ⟨fun _ => rfl, rfl⟩ (kln_f_X12_seenAs N σ σ.l)) (fun p24 => (kvn_ite (kvn_ite (kvn_ite (kvn_bind (kln_st ⟨fun _ => rfl, rfl⟩ (kln_f_X12_emit N p24.2 3 (p24.2.a 40 ((p24.1 : Int32).toNatClampNeg)))) (fun p29 => (kvn_st ⟨fun _ => rfl, rfl⟩ (kln_f_X12_factor_215 N p29.2)))) (kvn_bind (kln_st ⟨fun _ => rfl, rfl⟩ (kln_f_X12_emit N p24.2 4 (p24.2.a 40 ((p24.1 : Int32).toNatClampNeg)))) (fun p33 => (kvn_st ⟨fun _ => rfl, rfl⟩ (kln_f_X12_factor_215 N p33.2))))) kvn_none) (kvn_bindv (kvn_st ⟨fun _ => rfl, rfl⟩ (kln_f_X12_fail N p24.2 3 (p24.2.i 11))) (fun p35 => (kvn_some ⟨fun _ => rfl, rfl⟩)))))) (kvn_ite (kvn_bind (kln_st ⟨fun _ => rfl, rfl⟩ (kln_f_X12_opens N σ)) (fun p17 => (kvn_ite (kvn_some ⟨fun _ => rfl, rfl⟩) (kvn_bindv (kvn_st ⟨fun _ => rfl, rfl⟩ (kln_f_X12_next N p17.2)) (fun p20 => (kvn_bindv (kvn_st ⟨fun _ => rfl, rfl⟩ (kln_f_X12_then N p20 1 18)) (fun p22 => (kvn_some ⟨fun _ => rfl, rfl⟩)))))))) (kvn_ite (kvn_bind (kln_st ⟨fun _ => rfl, rfl⟩ (kln_f_X12_open N σ 40)) (fun p13 => (kvn_bindv (kvn_st ⟨fun _ => rfl, rfl⟩ (kln_f_X12_then N p13.2 2 16)) (fun p15 => (kvn_some ⟨fun _ => rfl, rfl⟩))))) (kvn_ite (kvn_some ⟨fun _ => rfl, rfl⟩) kvn_none)))))
theorem kln_f_X12_factor (N : Nat) (σ : RS) (x1 : Int32) : KVn σ (f_X12_factor N σ x1) := by
  unfold f_X12_factor
  exact (kvn_ite (kvn_ite (kvn_bind (kln_st ⟨fun _ => rfl, rfl⟩ (kln_f_X12_emit N (RS.setI σ 19 ((σ.i 19) - 1)) 7 0)) (fun p62 => (kvn_some ⟨fun _ => rfl, rfl⟩))) (kvn_ite (kvn_bind (kln_st ⟨fun _ => rfl, rfl⟩ (kln_f_X12_shut N σ 41)) (fun p60 => (kvn_some ⟨fun _ => rfl, rfl⟩))) (kvn_ite (kvn_bind (kln_st ⟨fun _ => rfl, rfl⟩ (kln_f_X12_can N σ 1)) (fun p5 => (kvn_ite (kvn_some ⟨fun _ => rfl, rfl⟩) (kvn_st ⟨fun _ => rfl, rfl⟩ (kln_f_X12_factor_124 N p5.2 x1))))) (kvn_ite (kvn_bind (kln_st ⟨fun _ => rfl, rfl⟩ (kln_f_X12_can N σ 1)) (fun p42 => (kvn_ite (kvn_some ⟨fun _ => rfl, rfl⟩) (kvn_st ⟨fun _ => rfl, rfl⟩ (kln_f_X12_factor_124 N p42.2 x1))))) (kvn_ite (kvn_bind (kln_st ⟨fun _ => rfl, rfl⟩ (kln_f_X12_can N σ 1)) (fun p46 => (kvn_ite (kvn_some ⟨fun _ => rfl, rfl⟩) (kvn_st ⟨fun _ => rfl, rfl⟩ (kln_f_X12_factor_124 N p46.2 x1))))) (kvn_ite (kvn_bind (kln_st ⟨fun _ => rfl, rfl⟩ (kln_f_X12_can N σ 1)) (fun p50 => (kvn_ite (kvn_some ⟨fun _ => rfl, rfl⟩) (kvn_st ⟨fun _ => rfl, rfl⟩ (kln_f_X12_factor_124 N p50.2 x1))))) (kvn_ite (kvn_bind (kln_st ⟨fun _ => rfl, rfl⟩ (kln_f_X12_can N σ 1)) (fun p57 => (kvn_ite (kvn_some ⟨fun _ => rfl, rfl⟩) (kvn_st ⟨fun _ => rfl, rfl⟩ (kln_f_X12_factor_124 N p57.2 x1))))) (kvn_bind (kln_st ⟨fun _ => rfl, rfl⟩ (kln_f_X12_can N σ 0)) (fun p54 => (kvn_ite (kvn_some ⟨fun _ => rfl, rfl⟩) (kvn_st ⟨fun _ => rfl, rfl⟩ (kln_f_X12_factor_124 N p54.2 x1)))))))))))) kvn_none)
theorem kln_f_X12_arms_250 (N : Nat) (σ : RS) (x1 : Int32) : KVn σ (f_X12_arms_250 N σ x1) := by
  unfold f_X12_arms_250
  exact (kvn_bind (kln_st ⟨fun _ => rfl, rfl⟩ (kln_f_X12_shut N σ 125)) (fun p25 => (kvn_ite (kvn_ite (kvn_some ⟨fun _ => rfl, rfl⟩) kvn_none) kvn_none)))
theorem kln_f_X12_arms_333 (N : Nat) (σ : RS) : KVn σ (f_X12_arms_333 N σ) := by
  unfold f_X12_arms_333
  exact (kvn_ite (kvn_bindv (kvn_st ⟨fun _ => rfl, rfl⟩ (kln_f_X12_next N σ)) (fun p51 => (kvn_some ⟨fun _ => rfl, rfl⟩))) (kvn_some ⟨fun _ => rfl, rfl⟩))
theorem kln_f_X12_arms_400 (N : Nat) (σ : RS) : KVn σ (f_X12_arms_400 N σ) := by
  unfold f_X12_arms_400
  exact (kvn_bindv (kvn_st ⟨fun _ => rfl, rfl⟩ (kln_f_X12_then N σ 7 16)) (fun p62 => (kvn_some ⟨fun _ => rfl, rfl⟩)))
theorem kln_f_X12_arms_435 (N : Nat) (σ : RS) (x1 : Int32) : KVn σ (f_X12_arms_435 N σ x1) := by
  unfold f_X12_arms_435
  exact (kvn_bind (kln_st ⟨fun _ => rfl, rfl⟩ (kln_f_X12_shut N σ 125)) (fun p71 => (kvn_ite (kvn_some ⟨fun _ => rfl, rfl⟩) kvn_none)))
theorem kln_f_X12_arms (N : Nat) (σ : RS) (x1 : Int32) : KVn σ (f_X12_arms N σ x1) := by
  unfold f_X12_arms
  exact (kvn_ite (kvn_ite (kvn_bindv (kvn_st ⟨fun _ => rfl, rfl⟩ (kln_f_X12_next N σ)) (fun p3 => (kvn_bind (kln_st ⟨fun _ => rfl, rfl⟩ (kln_f_X12_open N p3 40)) (fun p5 => (kvn_bindv (kvn_st ⟨fun _ => rfl, rfl⟩ (kln_f_X12_then N p5.2 1 16)) (fun p7 => (kvn_some ⟨fun _ => rfl, rfl⟩))))))) (kvn_ite (kvn_bind (kln_st ⟨fun _ => rfl, rfl⟩ (kln_f_X12_shut N σ 41)) (fun p10 => (kvn_bind (kln_st ⟨fun _ => rfl, rfl⟩ (kln_f_X12_emit N p10.2 29 (-1))) (fun p12 => (kvn_bind (kln_st ⟨fun _ => rfl, rfl⟩ (kln_f_X12_goal N (RS.setI (RS.setA (RS.setA (RS.setA p12.2 66 ((x1 : Int32).toNatClampNeg) p12.1) 67 ((x1 : Int32).toNatClampNeg) (-1)) 68 ((x1 : Int32).toNatClampNeg) 0) 52 ((p12.2.i 52) + 1)) 3 0)) (fun p14 => (kvn_bind (kln_st ⟨fun _ => rfl, rfl⟩ (kln_f_X12_open N p14.2 123)) (fun p16 => (kvn_some ⟨fun _ => rfl, rfl⟩))))))))) (kvn_ite (kvn_ite (kvn_bindv (kvn_st ⟨fun _ => rfl, rfl⟩ (kln_f_X12_next N σ)) (fun p43 => (kvn_some ⟨fun _ => rfl, rfl⟩))) (kvn_ite (kvn_ite (kvn_bindv (kvn_st ⟨fun _ => rfl, rfl⟩ (kln_f_X12_fail N σ 4 (σ.i 11))) (fun p41 => (kvn_some ⟨fun _ => rfl, rfl⟩))) (kvn_bindv (kvn_st ⟨fun _ => rfl, rfl⟩ (kln_f_X12_entry N (RS.setA σ 68 ((x1 : Int32).toNatClampNeg) 1) x1 0 1)) (fun p37 => (kvn_bindv (kvn_st ⟨fun _ => rfl, rfl⟩ (kln_f_X12_next N p37)) (fun p39 => (kvn_some ⟨fun _ => rfl, rfl⟩)))))) (kvn_ite (kvn_ite (kvn_bind (kln_st ⟨fun _ => rfl, rfl⟩ (kln_f_X12_can N σ 1)) (fun p33 => (kvn_ite (kvn_some ⟨fun _ => rfl, rfl⟩) (kvn_st ⟨fun _ => rfl, rfl⟩ (kln_f_X12_arms_250 N p33.2 x1))))) (kvn_bind (kln_st ⟨fun _ => rfl, rfl⟩ (kln_f_X12_can N σ 0)) (fun p30 => (kvn_ite (kvn_some ⟨fun _ => rfl, rfl⟩) (kvn_st ⟨fun _ => rfl, rfl⟩ (kln_f_X12_arms_250 N p30.2 x1)))))) (kvn_bind (kln_st ⟨fun _ => rfl, rfl⟩ (kln_f_X12_can N σ 0)) (fun p22 => (kvn_ite (kvn_some ⟨fun _ => rfl, rfl⟩) (kvn_st ⟨fun _ => rfl, rfl⟩ (kln_f_X12_arms_250 N p22.2 x1)))))))) (kvn_ite (kvn_bind (kln_st ⟨fun _ => rfl, rfl⟩ (kln_f_X12_caseNumber N σ x1)) (fun p46 => (kvn_ite (kvn_some ⟨fun _ => rfl, rfl⟩) (kvn_ite (kvn_st ⟨fun _ => rfl, rfl⟩ (kln_f_X12_arms_333 N (RS.setA p46.2 65 ((x1 : Int32).toNatClampNeg) 3))) (kvn_st ⟨fun _ => rfl, rfl⟩ (kln_f_X12_arms_333 N (RS.setA p46.2 65 ((x1 : Int32).toNatClampNeg) 5))))))) (kvn_ite (kvn_bind (kln_st ⟨fun _ => rfl, rfl⟩ (kln_f_X12_need N σ 59)) (fun p54 => (kvn_bind (kln_st ⟨fun _ => rfl, rfl⟩ (kln_f_X12_emit N p54.2 30 0)) (fun p56 => (kvn_some ⟨fun _ => rfl, rfl⟩))))) (kvn_ite (kvn_bind (kln_st ⟨fun _ => rfl, rfl⟩ (kln_f_X12_need N σ 306)) (fun p59 => (kvn_ite (kvn_ite (kvn_bind (kln_st ⟨fun _ => rfl, rfl⟩ (kln_f_X12_open N p59.2 123)) (fun p65 => (kvn_bindv (kvn_st ⟨fun _ => rfl, rfl⟩ (kln_f_X12_then N (RS.setA p65.2 71 ((x1 : Int32).toNatClampNeg) (p65.2.i 38)) 6 1)) (fun p67 => (kvn_some ⟨fun _ => rfl, rfl⟩))))) (kvn_st ⟨fun _ => rfl, rfl⟩ (kln_f_X12_arms_400 N p59.2))) (kvn_st ⟨fun _ => rfl, rfl⟩ (kln_f_X12_arms_400 N p59.2))))) (kvn_ite (kvn_ite (kvn_st ⟨fun _ => rfl, rfl⟩ (kln_f_X12_arms_435 N σ x1)) (kvn_ite (kvn_bindv (kvn_st ⟨fun _ => rfl, rfl⟩ (kln_f_X12_note N σ (σ.i 11))) (fun p75 => (kvn_st ⟨fun _ => rfl, rfl⟩ (kln_f_X12_arms_435 N p75 x1)))) (kvn_st ⟨fun _ => rfl, rfl⟩ (kln_f_X12_arms_435 N σ x1)))) (kvn_bind (kln_st ⟨fun _ => rfl, rfl⟩ (kln_f_X12_need N σ 59)) (fun p77 => (kvn_bind (kln_st ⟨fun _ => rfl, rfl⟩ (kln_f_X12_emit N p77.2 30 0)) (fun p79 => (kvn_some ⟨fun _ => rfl, rfl⟩)))))))))))) kvn_none)
theorem kln_f_X12_both_41 (N : Nat) (σ : RS) (x1 : Int32) (x2 : Int32) (x3 : Int32) (x4 : Int32) : KVn σ (f_X12_both_41 N σ x1 x2 x3 x4) := by
  unfold f_X12_both_41
  exact (kvn_ite (kvn_bindv (kvn_st ⟨fun _ => rfl, rfl⟩ (kln_f_X12_next N σ)) (fun p5 => (kvn_bind (kln_st ⟨fun _ => rfl, rfl⟩ (kln_f_X12_emit N p5 x4 0)) (fun p7 => (kvn_ite (kvn_bindv (kvn_st ⟨fun _ => rfl, rfl⟩ (kln_f_X12_then N (RS.setA p7.2 66 ((x1 : Int32).toNatClampNeg) p7.1) 2 x2)) (fun p10 => (kvn_some ⟨fun _ => rfl, rfl⟩))) kvn_none))))) (kvn_some ⟨fun _ => rfl, rfl⟩))
theorem kln_f_X12_both (N : Nat) (σ : RS) (x1 : Int32) (x2 : Int32) (x3 : Int32) (x4 : Int32) : KVn σ (f_X12_both N σ x1 x2 x3 x4) := by
  unfold f_X12_both
  exact (kvn_ite (kvn_ite (kvn_bindv (kvn_st ⟨fun _ => rfl, rfl⟩ (kln_f_X12_then N σ 1 x2)) (fun p13 => (kvn_some ⟨fun _ => rfl, rfl⟩))) (kvn_ite (kvn_ite (kvn_st ⟨fun _ => rfl, rfl⟩ (kln_f_X12_both_41 N (RS.setA σ 22 (((σ.a 66 ((x1 : Int32).toNatClampNeg)) : Int32).toNatClampNeg) (σ.i 20)) x1 x2 x3 x4)) kvn_none) (kvn_st ⟨fun _ => rfl, rfl⟩ (kln_f_X12_both_41 N σ x1 x2 x3 x4)))) kvn_none)
theorem kln_f_X12_one_133 (N : Nat) (σ : RS) : KVn σ (f_X12_one_133 N σ) := by
  unfold f_X12_one_133
  exact (kvn_bindv (kvn_st ⟨fun _ => rfl, rfl⟩ (kln_f_X12_next N σ)) (fun p9 => (kvn_some ⟨fun _ => rfl, rfl⟩)))
theorem kln_f_X12_one_112 (N : Nat) (σ : RS) : KVn σ (f_X12_one_112 N σ) := by
  unfold f_X12_one_112
  exact (kvn_ite (kvn_bind (kln_st ⟨fun _ => rfl, rfl⟩ (kln_f_X12_emit N σ 2 1)) (fun p11 => (kvn_st ⟨fun _ => rfl, rfl⟩ (kln_f_X12_one_133 N p11.2)))) (kvn_bind (kln_st ⟨fun _ => rfl, rfl⟩ (kln_f_X12_emit N σ 2 0)) (fun p7 => (kvn_st ⟨fun _ => rfl, rfl⟩ (kln_f_X12_one_133 N p7.2)))))
theorem kln_f_X12_one_281 (N : Nat) (σ : RS) (x1 : Int32) : KVn σ (f_X12_one_281 N σ x1) := by
  unfold f_X12_one_281
  exact (kvn_ite (kvn_bindv (kvn_st ⟨fun _ => rfl, rfl⟩ (kln_f_X12_next N (RS.setA σ 66 ((x1 : Int32).toNatClampNeg) (σ.i 10)))) (fun p39 => (kvn_bindv (kvn_st ⟨fun _ => rfl, rfl⟩ (kln_f_X12_then N p39 4 16)) (fun p41 => (kvn_some ⟨fun _ => rfl, rfl⟩))))) kvn_none)
theorem kln_f_X12_one (N : Nat) (σ : RS) (x1 : Int32) : KVn σ (f_X12_one N σ x1) := by
  unfold f_X12_one
  exact (kvn_ite (kvn_ite (kvn_ite (kvn_bind (kln_st ⟨fun _ => rfl, rfl⟩ (kln_f_X12_opens N σ)) (fun p20 => (kvn_ite (kvn_some ⟨fun _ => rfl, rfl⟩) (kvn_bindv (kvn_st ⟨fun _ => rfl, rfl⟩ (kln_f_X12_next N p20.2)) (fun p23 => (kvn_bindv (kvn_st ⟨fun _ => rfl, rfl⟩ (kln_f_X12_then N p23 1 22)) (fun p25 => (kvn_some ⟨fun _ => rfl, rfl⟩)))))))) (kvn_ite (kvn_bind (kln_st ⟨fun _ => rfl, rfl⟩ (kln_f_X12_open N σ 91)) (fun p16 => (kvn_bindv (kvn_st ⟨fun _ => rfl, rfl⟩ (kln_f_X12_then N p16.2 2 20)) (fun p18 => (kvn_some ⟨fun _ => rfl, rfl⟩))))) (kvn_ite (kvn_st ⟨fun _ => rfl, rfl⟩ (kln_f_X12_one_112 N σ)) (kvn_ite (kvn_st ⟨fun _ => rfl, rfl⟩ (kln_f_X12_one_112 N σ)) (kvn_bindv (kvn_st ⟨fun _ => rfl, rfl⟩ (kln_f_X12_then N σ 3 16)) (fun p14 => (kvn_some ⟨fun _ => rfl, rfl⟩))))))) (kvn_ite (kvn_bind (kln_st ⟨fun _ => rfl, rfl⟩ (kln_f_X12_emit N (RS.setI σ 19 ((σ.i 19) - 1)) 10 0)) (fun p28 => (kvn_some ⟨fun _ => rfl, rfl⟩))) (kvn_ite (kvn_bind (kln_st ⟨fun _ => rfl, rfl⟩ (kln_f_X12_shut N σ 93)) (fun p31 => (kvn_some ⟨fun _ => rfl, rfl⟩))) (kvn_ite (kvn_ite (kvn_bind (kln_st ⟨fun _ => rfl, rfl⟩ (kln_f_X12_can N σ 1)) (fun p35 => (kvn_ite (kvn_some ⟨fun _ => rfl, rfl⟩) (kvn_st ⟨fun _ => rfl, rfl⟩ (kln_f_X12_one_281 N p35.2 x1))))) (kvn_ite (kvn_bind (kln_st ⟨fun _ => rfl, rfl⟩ (kln_f_X12_can N σ 1)) (fun p44 => (kvn_ite (kvn_some ⟨fun _ => rfl, rfl⟩) (kvn_st ⟨fun _ => rfl, rfl⟩ (kln_f_X12_one_281 N p44.2 x1))))) (kvn_ite (kvn_bind (kln_st ⟨fun _ => rfl, rfl⟩ (kln_f_X12_can N σ 1)) (fun p48 => (kvn_ite (kvn_some ⟨fun _ => rfl, rfl⟩) (kvn_st ⟨fun _ => rfl, rfl⟩ (kln_f_X12_one_281 N p48.2 x1))))) (kvn_ite (kvn_bind (kln_st ⟨fun _ => rfl, rfl⟩ (kln_f_X12_can N σ 1)) (fun p52 => (kvn_ite (kvn_some ⟨fun _ => rfl, rfl⟩) (kvn_st ⟨fun _ => rfl, rfl⟩ (kln_f_X12_one_281 N p52.2 x1))))) (kvn_ite (kvn_bind (kln_st ⟨fun _ => rfl, rfl⟩ (kln_f_X12_can N σ 1)) (fun p56 => (kvn_ite (kvn_some ⟨fun _ => rfl, rfl⟩) (kvn_st ⟨fun _ => rfl, rfl⟩ (kln_f_X12_one_281 N p56.2 x1))))) (kvn_ite (kvn_bind (kln_st ⟨fun _ => rfl, rfl⟩ (kln_f_X12_can N σ 1)) (fun p63 => (kvn_ite (kvn_some ⟨fun _ => rfl, rfl⟩) (kvn_st ⟨fun _ => rfl, rfl⟩ (kln_f_X12_one_281 N p63.2 x1))))) (kvn_bind (kln_st ⟨fun _ => rfl, rfl⟩ (kln_f_X12_can N σ 0)) (fun p60 => (kvn_ite (kvn_some ⟨fun _ => rfl, rfl⟩) (kvn_st ⟨fun _ => rfl, rfl⟩ (kln_f_X12_one_281 N p60.2 x1))))))))))) (kvn_bind (kln_st ⟨fun _ => rfl, rfl⟩ (kln_f_X12_emit N σ 9 (σ.a 66 ((x1 : Int32).toNatClampNeg)))) (fun p66 => (kvn_some ⟨fun _ => rfl, rfl⟩))))))) kvn_none)
theorem kln_f_X12_thing_74 (N : Nat) (σ : RS) : KVn σ (f_X12_thing_74 N σ) := by
  unfold f_X12_thing_74
  exact (kvn_some ⟨fun _ => rfl, rfl⟩)
theorem kln_f_X12_thing_116 (N : Nat) (σ : RS) : KVn σ (f_X12_thing_116 N σ) := by
  unfold f_X12_thing_116
  exact (kvn_some ⟨fun _ => rfl, rfl⟩)
theorem kln_f_X12_thing (N : Nat) (σ : RS) (x1 : Int32) : KVn σ (f_X12_thing N σ x1) := by
  unfold f_X12_thing
  exact (kvn_ite (kvn_ite (kvn_ite (kvn_bindv (kvn_st ⟨fun _ => rfl, rfl⟩ (kln_f_X12_sums N σ x1 17 1)) (fun p4 => (kvn_st ⟨fun _ => rfl, rfl⟩ (kln_f_X12_thing_74 N p4)))) (kvn_ite (kvn_bindv (kvn_st ⟨fun _ => rfl, rfl⟩ (kln_f_X12_sums N σ x1 17 1)) (fun p9 => (kvn_st ⟨fun _ => rfl, rfl⟩ (kln_f_X12_thing_74 N p9)))) (kvn_bindv (kvn_st ⟨fun _ => rfl, rfl⟩ (kln_f_X12_sums N σ x1 17 0)) (fun p7 => (kvn_st ⟨fun _ => rfl, rfl⟩ (kln_f_X12_thing_74 N p7)))))) (kvn_ite (kvn_ite (kvn_bindv (kvn_st ⟨fun _ => rfl, rfl⟩ (kln_f_X12_sums N σ x1 18 1)) (fun p13 => (kvn_st ⟨fun _ => rfl, rfl⟩ (kln_f_X12_thing_116 N p13)))) (kvn_ite (kvn_bindv (kvn_st ⟨fun _ => rfl, rfl⟩ (kln_f_X12_sums N σ x1 18 1)) (fun p16 => (kvn_st ⟨fun _ => rfl, rfl⟩ (kln_f_X12_thing_116 N p16)))) (kvn_ite (kvn_bindv (kvn_st ⟨fun _ => rfl, rfl⟩ (kln_f_X12_sums N σ x1 18 1)) (fun p21 => (kvn_st ⟨fun _ => rfl, rfl⟩ (kln_f_X12_thing_116 N p21)))) (kvn_bindv (kvn_st ⟨fun _ => rfl, rfl⟩ (kln_f_X12_sums N σ x1 18 0)) (fun p19 => (kvn_st ⟨fun _ => rfl, rfl⟩ (kln_f_X12_thing_116 N p19))))))) (kvn_ite (kvn_bindv (kvn_st ⟨fun _ => rfl, rfl⟩ (kln_f_X12_factor N σ x1)) (fun p24 => (kvn_some ⟨fun _ => rfl, rfl⟩))) (kvn_ite (kvn_bindv (kvn_st ⟨fun _ => rfl, rfl⟩ (kln_f_X12_arms N σ x1)) (fun p27 => (kvn_some ⟨fun _ => rfl, rfl⟩))) (kvn_ite (kvn_bindv (kvn_st ⟨fun _ => rfl, rfl⟩ (kln_f_X12_both N σ x1 21 305 11)) (fun p30 => (kvn_some ⟨fun _ => rfl, rfl⟩))) (kvn_ite (kvn_bindv (kvn_st ⟨fun _ => rfl, rfl⟩ (kln_f_X12_both N σ x1 22 304 12)) (fun p33 => (kvn_some ⟨fun _ => rfl, rfl⟩))) (kvn_bindv (kvn_st ⟨fun _ => rfl, rfl⟩ (kln_f_X12_one N σ x1)) (fun p35 => (kvn_some ⟨fun _ => rfl, rfl⟩))))))))) kvn_none)
theorem kln_b_X12_parse_10 (N : Nat) (K : RS → Option (RS)) (hK : ∀ (σ : RS), KVn σ (K σ)) (σ : RS) : KVn σ (b_X12_parse_10 N K σ) := by
  unfold b_X12_parse_10
  exact (kvn_ite (kvn_some ⟨fun _ => rfl, rfl⟩) (kvn_ite (kvn_ite (kvn_ite (kvn_bindv (kvn_st ⟨fun _ => rfl, rfl⟩ (kln_f_X12_list N σ (σ.i 63))) (fun p7 => (kvn_st ⟨fun _ => rfl, rfl⟩ (hK p7)))) (kvn_ite (kvn_bindv (kvn_st ⟨fun _ => rfl, rfl⟩ (kln_f_X12_stat N σ (σ.i 63))) (fun p10 => (kvn_st ⟨fun _ => rfl, rfl⟩ (hK p10)))) (kvn_ite (kvn_bindv (kvn_st ⟨fun _ => rfl, rfl⟩ (kln_f_X12_block N σ (σ.i 63))) (fun p13 => (kvn_st ⟨fun _ => rfl, rfl⟩ (hK p13)))) (kvn_ite (kvn_bindv (kvn_st ⟨fun _ => rfl, rfl⟩ (kln_f_X12_tell N σ (σ.i 63))) (fun p16 => (kvn_st ⟨fun _ => rfl, rfl⟩ (hK p16)))) (kvn_ite (kvn_bindv (kvn_st ⟨fun _ => rfl, rfl⟩ (kln_f_X12_named N σ (σ.i 63))) (fun p19 => (kvn_st ⟨fun _ => rfl, rfl⟩ (hK p19)))) (kvn_ite (kvn_bindv (kvn_st ⟨fun _ => rfl, rfl⟩ (kln_f_X12_ending N σ (σ.i 63))) (fun p22 => (kvn_st ⟨fun _ => rfl, rfl⟩ (hK p22)))) (kvn_ite (kvn_bindv (kvn_st ⟨fun _ => rfl, rfl⟩ (kln_f_X12_throwing N σ (σ.i 63))) (fun p25 => (kvn_st ⟨fun _ => rfl, rfl⟩ (hK p25)))) (kvn_ite (kvn_bindv (kvn_st ⟨fun _ => rfl, rfl⟩ (kln_f_X12_asserted N σ (σ.i 63))) (fun p28 => (kvn_st ⟨fun _ => rfl, rfl⟩ (hK p28)))) (kvn_ite (kvn_bindv (kvn_st ⟨fun _ => rfl, rfl⟩ (kln_f_X12_branch N σ (σ.i 63))) (fun p31 => (kvn_st ⟨fun _ => rfl, rfl⟩ (hK p31)))) (kvn_ite (kvn_bindv (kvn_st ⟨fun _ => rfl, rfl⟩ (kln_f_X12_whiles N σ (σ.i 63))) (fun p34 => (kvn_st ⟨fun _ => rfl, rfl⟩ (hK p34)))) (kvn_ite (kvn_bindv (kvn_st ⟨fun _ => rfl, rfl⟩ (kln_f_X12_repeats N σ (σ.i 63))) (fun p37 => (kvn_st ⟨fun _ => rfl, rfl⟩ (hK p37)))) (kvn_ite (kvn_bindv (kvn_st ⟨fun _ => rfl, rfl⟩ (kln_f_X12_fors N σ (σ.i 63))) (fun p40 => (kvn_st ⟨fun _ => rfl, rfl⟩ (hK p40)))) (kvn_ite (kvn_bindv (kvn_st ⟨fun _ => rfl, rfl⟩ (kln_f_X12_lock N σ (σ.i 63))) (fun p43 => (kvn_st ⟨fun _ => rfl, rfl⟩ (hK p43)))) (kvn_ite (kvn_bindv (kvn_st ⟨fun _ => rfl, rfl⟩ (kln_f_X12_groups N σ (σ.i 63))) (fun p46 => (kvn_st ⟨fun _ => rfl, rfl⟩ (hK p46)))) (kvn_ite (kvn_bindv (kvn_st ⟨fun _ => rfl, rfl⟩ (kln_f_X12_trying N σ (σ.i 63))) (fun p49 => (kvn_st ⟨fun _ => rfl, rfl⟩ (hK p49)))) (kvn_bindv (kvn_st ⟨fun _ => rfl, rfl⟩ (kln_f_X12_thing N σ (σ.i 63))) (fun p51 => (kvn_st ⟨fun _ => rfl, rfl⟩ (hK p51))))))))))))))))))) kvn_none) (kvn_some ⟨fun _ => rfl, rfl⟩)))
theorem kln_f_X12_parse_10 (N : Nat) : ∀ (n : Nat) (σ : RS), KVn σ (f_X12_parse_10 N n σ )
  | 0, _ => kvn_none
  | n+1, σ => kln_b_X12_parse_10 N (f_X12_parse_10 N n) (fun σ => kln_f_X12_parse_10 N n σ) σ
theorem kln_f_X12_parse (N : Nat) (σ : RS) : KVn σ (f_X12_parse N σ) := by
  unfold f_X12_parse
  exact (kvn_bindv (kvn_st ⟨fun _ => rfl, rfl⟩ (kln_f_X12_push N (RS.setI σ 63 (-1)) 1)) (fun p1 => (kvn_st ⟨fun _ => rfl, rfl⟩ (kln_f_X12_parse_10 N N p1))))
end
section
/-! both readers: case and default where no switch is on top -/
theorem li_flt {N : Nat} {d : Int32} {B : CS} {b : RS} {t0 n : Nat} {L : List CEL} {x : Int} {S : CS} {s U : RS} {c1 : CEL} (hC : COR d B b t0 (c1 :: L) x S s) (hM : MLI c1 S s) (h36 : S.i 36 = 0 ∨ S.i 36 = 1) (hs : S.o c1.2.1 0 = 301 ∨ S.o c1.2.1 0 = 212 ∨ S.o c1.2.1 0 = 213 ∨ S.o c1.2.1 0 = 215 ∨ S.o c1.2.1 0 = 216) (k : S.i 43 = 219 ∨ S.i 43 = 220) (g : f_X12_parse_10 N n s = some U) : ¬ U.i 15 = 0 := by
  obtain ⟨no1, n305, ts, h64, hmode, -⟩ := hM
  have hv := hC.1
  obtain ⟨m1, e1, k1, m2, e2, k2, cst⟩ := STK.mem _ _ _ _ hC.2.1 c1 List.mem_cons_self
  have fb : ∃ tb : Nat, ceT c1 + wid (S.o c1.2.1 0) - 1 = tb + 1 ∧ s.a 64 tb = 3 ∧ s.a 65 tb = 1 := by
    have r := cst.2.2.1
    rcases hs with z | z | z | z | z
    · have wd : wid (S.o c1.2.1 0) = 2 := by rw [z]; rfl
      have y := (r.2.1 z).1
      exact ⟨ceT c1, by omega, y.1, y.2.1⟩
    · have wd : wid (S.o c1.2.1 0) = 3 := by rw [z]; rfl
      have y := (r.2.2.2.2.2.2.2.2.2.2.1 z).2.2.1
      exact ⟨ceT c1 + 1, by omega, y.1, y.2.1⟩
    · have wd : wid (S.o c1.2.1 0) = 3 := by rw [z]; rfl
      have y := ((r.2.2.2.2.2.2.2.2.2.2.2.2 (Or.inl z)).2.1 z).2.1.1
      exact ⟨ceT c1 + 1, by omega, y.1, y.2.1⟩
    · have wd : wid (S.o c1.2.1 0) = 3 := by rw [z]; rfl
      have y := ((r.2.2.2.2.2.2.2.2.2.2.2.2 (Or.inr (Or.inl z))).2.2.1 z).2.1
      exact ⟨ceT c1 + 1, by omega, y.1, y.2.1⟩
    · have wd : wid (S.o c1.2.1 0) = 3 := by rw [z]; rfl
      have y := ((r.2.2.2.2.2.2.2.2.2.2.2.2 (Or.inr (Or.inr (Or.inr z)))).2.2.2.2.1 z).2.1.1
      exact ⟨ceT c1 + 1, by omega, y.1, y.2.1⟩
  obtain ⟨tb, et, fb1, fb2⟩ := fb
  rw [et] at h64 hmode
  have ts' : tpI s = ((tb + 1 : Nat) : Int) := by
    rw [ts]
    omega
  have k9 := tk_is hv (a := 219) (b := 429) (Or.inr ⟨by decide, by decide⟩) (by decide)
  have k0 := tk_is hv (a := 220) (b := 430) (Or.inr ⟨by decide, by decide⟩) (by decide)
  have h10 : s.i 10 = 125 ∨ s.i 10 = 429 ∨ s.i 10 = 430 ∨ s.i 10 = 0 := by
    rcases k with z | z
    · exact Or.inr (Or.inl (k9.mp z))
    · exact Or.inr (Or.inr (Or.inl (k0.mp z)))
  have n125 : ¬ S.i 43 = 125 := by rcases k with z | z <;> rw [z] <;> decide
  obtain ⟨m0, V0, g0, n1, n2, n3, -⟩ := y_lend hv ts' h64 hmode h36 h10 g
  have fT := n3 tb (by omega)
  exact bl_flt n1 (t := tb) (by rw [n2]; omega) (fT.1.trans fb1) (fT.2.1.trans fb2) n125 g0
/-- the reference's switch wants case, default or its end -/
theorem sw_flt {N : Nat} {d : Int32} {S : CS} {V U : RS} {T m : Nat} (ev : ENV d S V) (tV : tpI V = (T : Int)) (v64 : V.a 64 T = 14) (v65 : V.a 65 T = 2) (n125 : ¬ V.i 10 = 125) (n429 : ¬ V.i 10 = 429) (n430 : ¬ V.i 10 = 430) (g0 : f_X12_parse_10 N m V = some U) : ¬ U.i 15 = 0 := by
  have h15 := ev.1.2.1
  obtain ⟨m2, V2, hV, g2⟩ := rl_14 g0 tV h15 v64
  unfold f_X12_groups at hV
  obtain ⟨-, hV⟩ := hf_ite hV
  rw [tp_nat tV, v65, if_neg (by decide), if_neg (by decide), if_pos rfl, if_neg n429, if_neg n430] at hV
  obtain ⟨p3, hsh, hV⟩ := hf_bind hV
  have z3 : ¬ p3.2.i 15 = 0 := by
    unfold f_X12_shut f_X12_shut_18 f_X12_need f_X12_need_27 f_X12_need_31 at hsh
    rw [if_pos h15, if_neg n125] at hsh
    obtain ⟨w, gw, hsh⟩ := hf_bind hsh
    obtain ⟨q, gq, gw⟩ := hf_bind gw
    obtain ⟨q1, q2⟩ := y_can0 gq
    rw [if_pos q1, if_neg q2] at gw
    cases gw
    have g2 : (if q.2.i 15 = 0 then some ((1 : Int32), q.2) else some (0, q.2)) = some p3 := (if_pos rfl).symm.trans hsh
    rw [if_neg q2] at g2
    rw [← Option.some.inj g2]
    exact q2
  refine u_flt g2 ?_
  obtain ⟨-, hV⟩ := hf_ite hV
  obtain ⟨-, hV⟩ := hf_ite hV
  obtain ⟨p25, hp, hV⟩ := hf_bind hV
  have z25 : ¬ p25.i 15 = 0 := krf_f_X12_patch N _ _ _ p25 hp z3
  have ov : ∀ (y W : RS) (w : Int32), ¬ y.i 15 = 0 → ((f_X12_over N y w).bind fun p => f_X12_groups_335 N p) = some W → ¬ W.i 15 = 0 := fun y W w hy h => by
    obtain ⟨p, hp, h⟩ := hf_bind h
    have h' : some p = some W := h
    rw [← Option.some.inj h']
    exact krf_f_X12_over N y w p hp hy
  by_cases c1' : p25.a 70 T = 1
  · rw [if_pos c1'] at hV
    exact ov _ _ _ (show ¬ (RS.setI (RS.setI p25 43 (p25.i 43 - 1)) 38 (p25.a 71 T)).i 15 = 0 from z25) hV
  · rw [if_neg c1'] at hV
    by_cases c2 : p25.a 68 T = 0
    · rw [if_pos c2] at hV
      exact ov _ _ _ (show ¬ (RS.setI (RS.setI p25 43 (p25.i 43 - 1)) 38 (p25.a 71 T)).i 15 = 0 from z25) hV
    · rw [if_neg c2] at hV
      split at hV
      · exact ov _ _ _ (show ¬ (RS.setI (RS.setI p25 43 (p25.i 43 - 1)) 38 (p25.a 71 T)).i 15 = 0 from z25) hV
      · exact ov _ _ _ (show ¬ (RS.setI (RS.setI p25 43 (p25.i 43 - 1)) 38 (p25.a 71 T)).i 15 = 0 from z25) hV
end
