/-! both readers: default -/
set_option maxHeartbeats 4000000 in
theorem gr_dflt {N : Nat} (hN : 1000 ≤ N) {E1 : CS → Option (Unit × CS)} {E2 : CS → Option (Int32 × CS)} {d : Int32} {B : CS} {b : RS} {t0 n : Nat} {L : List CEL} {x : Int} {S : CS} {s U : RS} {c1 c : CEL} {R : Unit × CS} {Aj : JBA} (hC : COR d B b t0 (c1 :: c :: L) x S s) (tp : TOP S s c1) (hM : MLI c1 S s ∨ MSW c1 S s) (h36 : S.i 36 = 0 ∨ S.i 36 = 1) (h218 : S.o c1.2.1 0 = 218) (k220 : S.i 43 = 220) (bz : BAZ B b (c1 :: c :: L)) (hT : t0 ≤ ceT c1) (e : f_X7_groupTurn N E1 E2 S c1.2.1 = some R) (g : f_X12_parse_10 N n s = some U) : (¬ R.2.i 32 = 0 ∧ ¬ U.i 15 = 0) ∨ ∃ (m : Nat) (u : RS), f_X12_parse_10 N m u = some U ∧ POPD d B b t0 c1 (c :: L) R.2 u ∧ JTR Aj U B b (c1 :: c :: L) S s (vws R.2 u (c1 :: c :: L)) R.2 u := by
  have hv := hC.1
  have k10 := (tk_is hv (a := 220) (b := 430) (Or.inr ⟨by decide, by decide⟩) (by decide)).mp k220
  obtain ⟨m', e', k', c1s, lkl, stl⟩ := id hC.2.1
  obtain ⟨f1, f2, f3, f4, f5, f6⟩ := c1s.2.2.1.2.2.2.2.2.2.2.2.2.2.2.1 h218
  obtain ⟨em, ee, a66b, M, y1, y2, y3, y4⟩ := c1s.2.2.2.2.1 h218
  rw [em] at y1
  have h14 := hC.2.2.2.2.2.2.2.2.1.1
  obtain ⟨m, V, g0, ev, tV, fr, tk, ⟨v64, v65, v66, v67, v68, v70, v71, v72⟩, ⟨vph, v10, v11, v17, v19, vi, va, vb⟩⟩ := sw_1 hC hM h36 h218 (Or.inr (Or.inr (Or.inl k10))) g
  obtain ⟨m2, V2, hV, g2⟩ := rl_14 g0 tV ev.1.2.1 v64
  unfold f_X12_groups at hV
  obtain ⟨-, hV⟩ := hf_ite hV
  rw [tp_nat tV, v65, if_neg (by decide), if_neg (by decide), if_pos rfl, if_neg (by rw [v10, k10]; decide), if_pos (v10.trans k10)] at hV
  -- the class
  unfold f_X7_groupTurn at e
  rw [e_fnd0 (show ¬ S.i 43 = 219 by rw [k220]; decide), ob_some, if_pos rfl, e_fnd1 k220, ob_some, if_neg n10] at e
  have e' : f_X7_groupTurn_20 N E1 E2 S c1.2.1 = some R := e
  unfold f_X7_groupTurn_20 at e'
  obtain ⟨p6, e6, e'⟩ := hf_bind e'
  have k6 : p6.2.i 43 = 220 := (nt_i e6).2.1.trans k220
  rw [e_fnd0 (show ¬ p6.2.i 43 = 219 by rw [k6]; decide), ob_some, if_pos rfl] at e'
  obtain ⟨-, e'⟩ := hf_ite e'
  obtain ⟨n6i, n6t, n6a, n6r, n6o, n6ol, n6b, n6l, n6h⟩ := nt_fr e6
  have hi := i11_hi hv
  have t21 := hv.t21
  obtain ⟨ev6, w1, t6⟩ := ev.nt (by rw [v11]; omega) e6
  have o11 : p6.2.o c1.2.1 11 = S.o c1.2.1 11 := by rw [n6o]
  have e0 : (if S.o c1.2.1 11 < 0 then f_X7_groupTurn_59 N E1 E2 p6.2 c1.2.1 p6.1 0 else (f_X1_fail N p6.2 4 (p6.2.i 44)).bind fun p37 => f_X7_groupTurn_59 N E1 E2 p37.2 c1.2.1 p6.1 0) = some R := by
    rw [← o11]
    exact e'
  by_cases c11 : S.o c1.2.1 11 < 0
  rotate_left
  · -- there is one
    rw [if_neg c11] at e0
    have l0 : 0 ≤ (S.o c1.2.1 11).toInt := by
      by_cases z : 0 ≤ (S.o c1.2.1 11).toInt
      · exact z
      · exact absurd (Int32.lt_iff_toInt_lt.mpr (by rw [z_t0]; omega)) c11
    rw [if_pos (by rw [v68]; exact f6.mpr l0)] at hV
    obtain ⟨p47, h47, hV⟩ := hf_bind hV
    have f47 : ¬ p47.i 15 = 0 := by
      unfold f_X12_fail at h47
      rw [if_pos ev.1.2.1] at h47
      rw [← Option.some.inj h47]
      show ¬ (4 : Int32) = 0
      decide
    obtain ⟨p37, e37, e0⟩ := hf_bind e0
    have z1 : ¬ p37.2.i 32 = 0 := y_fail (by decide) e37
    refine Or.inl ⟨?_, u_flt g2 (by rw [← Option.some.inj hV]; exact f47)⟩
    unfold f_X7_groupTurn_59 f_X7_groupTurn_87 at e0
    obtain ⟨p15, e15, e0⟩ := hf_bind e0
    rw [if_pos rfl] at e0
    obtain ⟨-, e0⟩ := hf_ite e0
    obtain ⟨p21, e21, e0⟩ := hf_bind e0
    obtain ⟨p25, e25, e0⟩ := hf_bind e0
    obtain ⟨-, e0⟩ := hf_ite e0
    have z2 : ¬ p15.2.i 32 = 0 := by rw [kF_X9_advance N p37.2 p15 e15 z1]; exact z1
    have z3 : ¬ p21.2.i 32 = 0 := by rw [kF_X1_expect N _ 58 p21 e21 (show ¬ (CS.setO p15.2 c1.2.1 11 p6.1).i 32 = 0 from z2)]; exact z2
    have z4 : ¬ p25.2.i 32 = 0 := by rw [kF_X0_aim N p21.2 _ p25 e25 z3]; exact z3
    rw [← Option.some.inj e0]
    exact z4
  rw [if_pos c11] at e0
  have n68 : ¬ V.a 68 (ceT c1) = 1 := fun z => by
    rw [v68] at z
    have := f6.mp z
    have := lt_int c11
    rw [z_t0] at this
    omega
  rw [if_neg n68] at hV
  obtain ⟨p39, h39, hV⟩ := hf_bind hV
  obtain ⟨p41, h41, hV⟩ := hf_bind hV
  unfold f_X7_groupTurn_59 at e0
  obtain ⟨p15, e15, e0⟩ := hf_bind e0
  rw [if_pos rfl] at e0
  obtain ⟨-, e0⟩ := hf_ite e0
  have b1 : vp_nar .boolean (1 : Int32) = 1 := by decide
  have en := y_entry (t := ceT c1) (tp_nat tV) h39
  rw [b1] at en
  obtain ⟨W, hW⟩ : ∃ y, y = RS.setA V 68 (ceT c1) 1 := ⟨_, rfl⟩
  have Wi : W.i = V.i ∧ W.b = V.b ∧ W.l = V.l := by rw [hW]; exact ⟨rfl, rfl, rfl⟩
  have Wk : ∀ k : Nat, k ≠ 68 → W.a k = V.a k := fun k hk => by rw [hW, setA_nk hk]
  have W68 : W.a 68 (ceT c1) = 1 := by rw [hW]; exact setA_at
  have W68j : ∀ j : Nat, j ≠ ceT c1 → W.a 68 j = V.a 68 j := fun j hj => by rw [hW]; exact setA_ne hj
  rw [← hW] at en
  clear hW
  have q66 : W.a 66 (ceT c1) = s.a 66 (ceT c1) := by rw [Wk 66 (by decide)]; exact v66
  have hl : chn W (W.a 22 (W.a 66 (ceT c1)).toNatClampNeg) M := by
    rw [q66, Wk 22 (by decide), va 22 (by decide)]
    exact chn.up (by rw [Wi.1, vi 24 (by decide) (by decide)]; exact Int.le_refl _) (fun j _ => by rw [Wk 27 (by decide), va 27 (by decide)]) M _ y2
  have hq : FQL W (ceT c1) M := by
    unfold FQL at *
    rw [Wk 67 (by decide), v67]
    exact y3
  obtain ⟨en0, k1, k2, k3, k4, k5, k6', k7, k8⟩ := en.chain hl hq
  obtain ⟨n1, n2, n3, n4, n5, n6, n7, n8, n9, n10', n26⟩ := id en
  have i24 : W.i 24 = s.i 24 := by rw [Wi.1, vi 24 (by decide) (by decide)]
  have en24 : (s.i 24).toInt = (en0 : Int) := by rw [← i24]; exact k1
  have na : ∀ k : Nat, k ≠ 22 → k ≠ 25 → k ≠ 26 → k ≠ 27 → k ≠ 28 → k ≠ 67 → k ≠ 68 → p39.a k = V.a k := fun k h1 h2 h3 h4 h5 h6 h7 => by rw [n7 k h1 h2 h3 h4 h5 h6, Wk k h7]
  have ni : ∀ k : Nat, k ≠ 24 → p39.i k = V.i k := fun k hk => by rw [n8 k hk, Wi.1]
  have nb : p39.b = V.b := by rw [n9, Wi.2.1]
  have nl : p39.l = V.l := by rw [n10', Wi.2.2]
  have ph39 : phI p39 = phI V := by
    unfold phI
    rw [ni 17 (by decide), ni 20 (by decide)]
  have ev39 : ENV d p6.2 p39 := ev6.kq (ni 38 (by decide)) (ni 2 (by decide)) (ni 3 (by decide)) (ni 18 (by decide)) (ni 53 (by decide)) (ni 54 (by decide)) (ni 55 (by decide)) (na 1 (by decide) (by decide) (by decide) (by decide) (by decide) (by decide) (by decide)) (na 4 (by decide) (by decide) (by decide) (by decide) (by decide) (by decide) (by decide)) (na 41 (by decide) (by decide) (by decide) (by decide) (by decide) (by decide) (by decide)) (by rw [nb]) (by rw [nb]) (ni 10 (by decide)) (ni 11 (by decide)) (ni 12 (by decide)) (ni 14 (by decide)) (ni 15 (by decide)) (ni 17 (by decide)) (ni 19 (by decide)) nl ⟨by rw [ni 20 (by decide)]; exact ev6.2.2.2.2.2.2.1, by rw [ph39]; exact ev6.2.2.2.2.2.2.2.1⟩ (ev6.wp.of (by rw [ni 43 (by decide)]; exact Int.le_refl _) (ni 56 (by decide)) (ni 59 (by decide)) (ni 29 (by decide)) (na 58 (by decide) (by decide) (by decide) (by decide) (by decide) (by decide) (by decide)) (na 62 (by decide) (by decide) (by decide) (by decide) (by decide) (by decide) (by decide)))
  obtain ⟨a1, a2, a3, a4, a5, a6, a7, a8, a9, a10⟩ := ev39.adv hN (by rw [k6]; decide) e15 h41
  obtain ⟨-, -, -, -, -, -, -, -, -, -, adv, q17⟩ := ev39.w.adv hN (by rw [k6]; decide) e15 h41
  have l4 := ev39.1.2.2.2.2.2.2.1.2.2.2.2.2.1 (Or.inl (by rw [k6]; decide))
  have ad := adv.2.2.1
  have k44 := ev39.1.2.2.2.1.1
  have k44' := a1.1.2.2.2.1.1
  rw [k44] at l4
  rw [k44'] at ad
  have n11 : (p39.i 11).toInt = (s.i 11).toInt := by rw [ni 11 (by decide), v11]
  have n17 : (p39.i 17).toInt = (s.i 17).toInt := by rw [ni 17 (by decide), v17]
  obtain ⟨-, -, -, -, -, -, -, -, -, -, j36, -, j38, j50, j53, j54, j55, j56, -, -, -, -, j52, jr, jo, jol, -, j21, jhk⟩ := pj_eq a3
  have po : p15.2.o = S.o := by rw [jo, n6o]
  have p22 : p15.2.i 22 = S.i 22 := by rw [a8, n6i 22 (by decide)]
  have p18 : p15.2.a 18 = S.a 18 := by rw [a9.1, n6a 18 (by decide)]
  have qT : ∀ k : Nat, 64 ≤ k → k ≤ 73 → p41.a k (ceT c1) = p39.a k (ceT c1) := fun k h1 h2 => (FRB.of a2 : FRB (ceT c1 + 1) p39 p41).all k h1 h2
  have sT : ∀ k : Nat, 64 ≤ k → k ≤ 73 → k ≠ 67 → k ≠ 68 → p41.a k (ceT c1) = V.a k (ceT c1) := fun k h1 h2 h3 h4 => by
    rw [qT k h1 h2, na k (by omega) (by omega) (by omega) (by omega) (by omega) h3 h4]
  have q68 : p41.a 68 (ceT c1) = 1 := by
    rw [qT 68 (by decide) (by decide), n7 68 (by decide) (by decide) (by decide) (by decide) (by decide) (by decide)]
    exact W68
  have q25 : p41.a 25 = p39.a 25 := qj_a a2 25 (by decide)
  have q27 : p41.a 27 = p39.a 27 := qj_a a2 27 (by decide)
  have q28 : p41.a 28 = p39.a 28 := qj_a a2 28 (by decide)
  have q24 : p41.i 24 = p39.i 24 := (qj_eq a2).2.2.2.2.1
  have w25 : W.a 25 = s.a 25 := by rw [Wk 25 (by decide), va 25 (by decide)]
  have w27 : W.a 27 = s.a 27 := by rw [Wk 27 (by decide), va 27 (by decide)]
  have w28 : W.a 28 = s.a 28 := by rw [Wk 28 (by decide), va 28 (by decide)]
  have lM := chn.lt M _ y2
  have evP : ENV d (CS.setO p15.2 c1.2.1 11 p6.1) p41 := a1.so (by decide)
  have Po : ∀ a : Nat, a ≠ c1.2.1 → (CS.setO p15.2 c1.2.1 11 p6.1).o a = S.o a := fun a ha => by rw [so_ne ha, po]
  have Pk : ∀ k : Nat, k ≠ 11 → (CS.setO p15.2 c1.2.1 11 p6.1).o c1.2.1 k = S.o c1.2.1 k := fun k hk => by rw [so_nk hk, po]
  have P11 : (CS.setO p15.2 c1.2.1 11 p6.1).o c1.2.1 11 = p6.1 := so_at
  have Pi : (CS.setO p15.2 c1.2.1 11 p6.1).i = p15.2.i := rfl
  have Pa : (CS.setO p15.2 c1.2.1 11 p6.1).a = p15.2.a := rfl
  have Pr : (CS.setO p15.2 c1.2.1 11 p6.1).r = p15.2.r ∧ (CS.setO p15.2 c1.2.1 11 p6.1).ol = p15.2.ol := ⟨rfl, rfl⟩
  obtain ⟨P, hP⟩ : ∃ P, P = CS.setO p15.2 c1.2.1 11 p6.1 := ⟨_, rfl⟩
  rw [← hP] at evP Po Pk P11 Pi Pa Pr e0
  clear hP
  have fr41 : FRB (ceT c1) s p41 := by
    refine (fr.tr (fun j hj => ?_)).tr (FRB.of a2)
    have n67 : p39.a 67 j = V.a 67 j := by
      rw [n5]
      show (if j = ceT c1 then W.i 24 else W.a 67 j) = _
      rw [if_neg (by omega), Wk 67 (by decide)]
    have n68' : p39.a 68 j = V.a 68 j := by rw [n7 68 (by decide) (by decide) (by decide) (by decide) (by decide) (by decide), W68j j (by omega)]
    have nk : ∀ k : Nat, 64 ≤ k → k ≤ 73 → k ≠ 67 → k ≠ 68 → p39.a k j = V.a k j := fun k h1 h2 h3 h4 => by rw [na k (by omega) (by omega) (by omega) (by omega) (by omega) h3 h4]
    exact ⟨nk 64 (by decide) (by decide) (by decide) (by decide), nk 65 (by decide) (by decide) (by decide) (by decide), nk 66 (by decide) (by decide) (by decide) (by decide), n67, n68', nk 69 (by decide) (by decide) (by decide) (by decide), nk 70 (by decide) (by decide) (by decide) (by decide), nk 71 (by decide) (by decide) (by decide) (by decide), nk 72 (by decide) (by decide) (by decide) (by decide), nk 73 (by decide) (by decide) (by decide) (by decide), by rw [nb]⟩
  have k3' : FQL p41 (ceT c1) (M ++ [en0]) := by
    unfold FQL at *
    rw [qT 67 (by decide) (by decide)]
    exact k3
  have hz9 : GRZ (gPut (S.a 17) 1024 p6.1 (-1)) p6.1 c1.2.1 (ceT c1) S s P p41 := by
    obtain ⟨w20, w15, w16, w17, w23, w38, w22, w19⟩ := pe_eq (ke_X9_advance N p6.2 p15 e15)
    obtain ⟨⟨q20', q24', q29', q33', q42', q52'⟩, q21', q22', q23', q25', q26', q27', q28', q30', q31', q32', q34', q35', q36', q37'⟩ := qe_eq (kre_f_X12_next N p39 p41 h41)
    have t17 : p6.2.a 17 = gPut (S.a 17) 1024 (S.i 21) (-1) ∧ p6.1 = S.i 21 := by
      unfold f_X0_newTarget at e6
      cases e6
      exact ⟨rfl, Int32.add_sub_cancel _ _⟩
    have cken : (s.i 24).toNatClampNeg = en0 := by
      have := clampI (show 0 ≤ (s.i 24).toInt by omega)
      omega
    obtain ⟨-, -, -, -, -, -, -, -, -, -, -, -, -, -, -, -, -, -, -, -, xb48, xb49, -⟩ := pj_eq a3
    have e66 : p39.a 66 (ceT c1) = s.a 66 (ceT c1) := by
      rw [na 66 (by decide) (by decide) (by decide) (by decide) (by decide) (by decide) (by decide)]
      exact v66
    have k2' := k2
    rw [e66] at k2'
    have sak : ∀ k : Nat, k ≠ 22 → k ≠ 25 → k ≠ 26 → k ≠ 27 → k ≠ 28 → k ≠ 67 → k ≠ 68 → ¬ (64 ≤ k ∧ k ≤ 73) → p41.a k = p39.a k → p41.a k = s.a k := fun k h1 h2 h3 h4 h5 h6 h7 h8 h9 => by rw [h9, na k h1 h2 h3 h4 h5 h6 h7, va k h8]
    have sik : ∀ k : Nat, k ≠ 24 → k ≠ 63 → k ≠ 75 → p41.i k = p39.i k → p41.i k = s.i k := fun k h6 h7 h8 h9 => by rw [h9, ni k h6, vi k h7 h8]
    obtain ⟨A2, A3, A8, -, A24, A29, A33, A38, -, A43, -, -, -, -, A56, A59, -⟩ := qj_eq a2
    have n24 : (p41.i 24).toInt = (s.i 24).toInt + 1 := by
      rw [q24, n1, i24, ad1 (by omega) (by rw [← i24]; have := n2.2; omega)]
    have a26 : ∀ j : Nat, p41.a 26 j = if j = en0 then s.i 20 else s.a 26 j := fun j => by
      rw [q26', n26]
      show (if j = (W.i 24).toNatClampNeg then W.i 20 else W.a 26 j) = _
      rw [i24, cken, Wk 26 (by decide), Wi.1, va 26 (by decide), vi 20 (by decide) (by decide)]
    refine ⟨⟨by rw [Pi, w20, n6i 20 (by decide)], by rw [Pa, w15, n6a 15 (by decide)], by rw [Pa, w16, n6a 16 (by decide)], by rw [Pi, w23, n6i 23 (by decide)], by rw [Pi, w38, n6i 38 (by decide)], by rw [Pa, xb48, n6a 48 (by decide)], by rw [Pa, xb49, n6a 49 (by decide)]⟩, ⟨t17.2, by rw [Pi, j21, n6t], by rw [Pa, w17, t17.1, t17.2]⟩, fun k _ => by rw [Pa, w19, n6a 19 (by decide)], ⟨by omega, sik 20 (by decide) (by decide) (by decide) a6, n24, sik 29 (by decide) (by decide) (by decide) q29', sik 33 (by decide) (by decide) (by decide) q33', sik 42 (by decide) (by decide) (by decide) q42', sik 52 (by decide) (by decide) (by decide) q52', sik 38 (by decide) (by decide) (by decide) A38, sik 43 (by decide) (by decide) (by decide) A43, sik 59 (by decide) (by decide) (by decide) A59⟩, fun k hk => ?_, fun j hj => ?_, fun j hj => ⟨?_, ?_, fun nj => ?_, ?_⟩, ?_, fun M' hM' => ?_, ?_, Or.inr ⟨by rw [Pi]; exact p22, ?_, P11, ?_⟩⟩
    · have z8 : p41.a k = p39.a k := by
        rcases hk with z | z | z | z | z | z | z | z | z | z | z | z | z | z | z | z | z | z <;> rw [z]
        · exact q21'
        · exact q23'
        · exact q30'
        · exact q31'
        · exact q32'
        · exact q34'
        · exact q35'
        · exact q36'
        · exact q37'
        all_goals exact qj_a a2 _ (by decide)
      exact sak k (by omega) (by omega) (by omega) (by omega) (by omega) (by omega) (by omega) (by omega) z8
    · rw [a7, k8 j (by rw [q66]; exact hj), Wk 22 (by decide), va 22 (by decide)]
    · rw [q25, (k6' j (by omega)).1, w25]
    · rw [a26, if_neg (by omega)]
    · rw [q27]
      by_cases hjM : j ∈ M
      · rcases lst_end M with w | ⟨L0, l, w⟩
        · rw [w] at hjM
          exact absurd hjM List.not_mem_nil
        · have al := y3.2 L0 l w
          rw [w] at hjM y2 k2
          rcases List.mem_append.mp hjM with k | k
          · exact chn.same L0 _ _ y2 k2 j k
          · rcases List.mem_cons.mp k with k | k
            · omega
            · exact absurd k List.not_mem_nil
      · rw [k7 j (by omega) hjM, w27]
    · rw [q28, (k6' j (by omega)).2, w28]
    · rw [cken, a26, if_pos rfl]
    · rw [chn.uq _ _ _ hM' y2, cken, a7]
      exact chn.up (by rw [q24]; exact Int.le_refl _) (fun j _ => by rw [q27]) _ _ k2'
    · have z := k3'.2 M en0 rfl
      omega
    · rw [cken, q28, k5]
      decide
    · have := lt_int c11
      rw [z_t0] at this
      exact this
  refine gr_tail hN hC tp h218 bz hT ⟨⟨evP, qj_63 a2 (show tpI p39 = _ by show (p39.i 63).toInt = _; rw [ni 63 (by decide)]; exact tV), fr41⟩, ⟨?_, ?_, ?_, ?_, Or.inr q68, ⟨fun _ => by rw [P11, w1]; exact t21.1, fun _ => q68⟩, ?_⟩, fun k hk => ?_, ?_, ⟨?_, ?_, ?_⟩, fun k hk => ?_, fun j hj => ?_, ?_, fun M2 z1 z2 z3 => ?_, ⟨⟨?_, ?_⟩, Po, Pk⟩, ⟨?_, ?_, ?_, ?_, ?_, ?_⟩, ⟨?_, ?_, fun i hi => ?_, ?_⟩, ⟨?_, ?_, ?_, ?_⟩⟩ hz9 e0 hV g2
  · rw [sT 64 (by decide) (by decide) (by decide) (by decide)]
    exact v64
  · rw [sT 66 (by decide) (by decide) (by decide) (by decide)]
    exact v66
  · rw [sT 71 (by decide) (by decide) (by decide) (by decide)]
    exact v71
  · rw [sT 72 (by decide) (by decide) (by decide) (by decide)]
    exact v72
  · have z := k3'.2 M en0 rfl
    omega
  · have w := vi k (by omega) (by omega)
    have w2 := ni k (by omega)
    obtain ⟨A2, A3, A8, -, A24, A29, A33, A38, -, A43, -, -, -, -, A56, A59, -⟩ := qj_eq a2
    rcases hk with z | z | z | z | z | z | z | z | z | z <;> rw [z] at w w2 ⊢
    · rw [A2, w2, w]
    · rw [A3, w2, w]
    · rw [A8, w2, w]
    · rw [a6, w2, w]
    · rw [A29, w2, w]
    · rw [A33, w2, w]
    · rw [A38, w2, w]
    · rw [A43, w2, w]
    · rw [A56, w2, w]
    · rw [A59, w2, w]
  · rw [q24, n1, i24, ad1 (by omega) (by rw [← i24]; have := n2.2; omega)]
    omega
  · rw [(qj_b a2).1, nb, vb]
  · rw [(qj_b a2).2.1, nb, vb]
  · rw [(qj_b a2).2.2, nb, vb]
  · rw [qj_a a2 k (by omega), na k (by omega) (by omega) (by omega) (by omega) (by omega) (by omega) (by omega), va k (by omega)]
  · rw [a7, k8 j (by rw [q66]; exact hj), Wk 22 (by decide), va 22 (by decide)]
  · rcases lst_end M with w | ⟨L0, l, w⟩
    · refine ⟨s.i 24, Or.inl ⟨y3.1 w, rfl⟩, fun j hj => ?_⟩
      have z := k6' j (by omega)
      rw [q25, q27, q28, z.1, z.2, k7 j (by omega) (by rw [w]; exact List.not_mem_nil), w25, w27, w28]
      exact ⟨rfl, rfl, rfl⟩
    · have al := y3.2 L0 l w
      refine ⟨s.a 67 (ceT c1), Or.inr ⟨by omega, rfl⟩, fun j hj => ?_⟩
      have ll := lM l (by rw [w]; exact List.mem_append_right _ List.mem_cons_self)
      have z := k6' j (by omega)
      have z27 : p39.a 27 j = s.a 27 j := by
        by_cases hjM : j ∈ M
        · rw [w] at hjM y2 k2
          rcases List.mem_append.mp hjM with k | k
          · exact chn.same L0 _ _ y2 k2 j k
          · rcases List.mem_cons.mp k with k | k
            · omega
            · exact absurd k List.not_mem_nil
        · rw [k7 j (by omega) hjM, w27]
      rw [q25, q27, q28, z.1, z.2, z27, w25, w28]
      exact ⟨rfl, rfl, rfl⟩
  · have eM : M2 = M := chn.uq _ _ _ z2 y2
    have e66 : p39.a 66 (ceT c1) = s.a 66 (ceT c1) := by
      rw [na 66 (by decide) (by decide) (by decide) (by decide) (by decide) (by decide) (by decide)]
      exact v66
    rw [e66] at k2
    refine ⟨M ++ [en0], ?_, ?_, k3', fun j hj => ?_⟩
    · unfold CSM at y1 ⊢
      rw [Pi, Pa, p22, p18, q25, q28]
      have e28 : ∀ j ∈ M, p39.a 28 j = s.a 28 j := fun j hj => by
        rw [(k6' j (by have := lM j hj; omega)).2, w28]
      have n28 : nd (p39.a 28) (M ++ [en0]) = nd (s.a 28) M := by
        rw [nd.app, nd.eq M e28]
        show nd (s.a 28) M + (0 + (if p39.a 28 en0 = 0 then 1 else 0)) = nd (s.a 28) M
        rw [k5, if_neg (by decide)]
        omega
      refine ⟨y1.1, ⟨y1.2.1.1, by rw [n28]; exact y1.2.1.2.1, fun i j i1 i2 hj hz hv => ?_⟩, fun v => ?_⟩
      · rcases List.mem_append.mp hj with z | z
        · have y := k6' j (by have := lM j z; omega)
          rw [ndx.app M _ z, ndx.eq M e28]
          rw [y.2, w28] at hz
          rw [y.1, w25] at hv
          exact y1.2.1.2.2 i j i1 i2 z hz hv
        · rcases List.mem_cons.mp z with z | z
          · rw [z, k5] at hz
            exact absurd hz (by decide)
          · exact absurd z List.not_mem_nil
      rw [y1.2.2 v]
      constructor
      · rintro ⟨j, j1, j2, j3⟩
        have z := k6' j (by have := lM j j1; omega)
        exact ⟨j, List.mem_append_left _ j1, by rw [z.2, w28]; exact j2, by rw [z.1, w25]; exact j3⟩
      · rintro ⟨j, j1, j2, j3⟩
        rcases List.mem_append.mp j1 with z | z
        · have y := k6' j (by have := lM j z; omega)
          rw [y.2, w28] at j2
          rw [y.1, w25] at j3
          exact ⟨j, z, j2, j3⟩
        · rcases List.mem_cons.mp z with z | z
          · rw [z, k5] at j2
            exact absurd j2 (by decide)
          · exact absurd z List.not_mem_nil
    · rw [a7]
      exact chn.up (by rw [q24]; exact Int.le_refl _) (fun j _ => by rw [q27]) _ _ k2
    · rw [eM]
      rcases List.mem_append.mp hj with z | z
      · exact Or.inl z
      · rcases List.mem_cons.mp z with z | z
        · exact Or.inr (by omega)
        · exact absurd z List.not_mem_nil
  · rw [Pr.1, jr, n6r]
  · rw [Pr.2, jol, n6ol]
  · rw [Pi, j38, n6i 38 (by decide)]
  · rw [Pi, j50, n6i 50 (by decide)]
  · rw [Pi, j53, n6i 53 (by decide)]
  · rw [Pi, j54, n6i 54 (by decide)]
  · rw [Pi, j55, n6i 55 (by decide)]
  · rw [Pi, j56, n6i 56 (by decide)]
  · rw [Pi, j21]
    exact t6
  · rw [Pi, p22]
    exact Int.le_refl _
  · rw [Pa, p18]
  · rw [Pa, j52, n6a 52 (by decide)]
  · omega
  · unfold phI
    have w20 : p41.i 20 = s.i 20 := by rw [a6, ni 20 (by decide), vi 20 (by decide) (by decide)]
    rw [w20]
    omega
  · omega
  · rw [a10, ni 19 (by decide), vi 19 (by decide) (by decide)]
