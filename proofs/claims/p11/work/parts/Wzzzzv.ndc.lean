/-! both readers: the class at a token that is none, behind the reference's fault -/
theorem gone_st {N : Nat} : ∀ (n : Nat) (S : CS) (a : Nat) (xc x3 : Int32) (P : Int32 × CS), f_X6_isGoneTo_5 N n S a xc x3 = some P → P.2 = S
  | 0, _, _, _, _, _, e => by cases e
  | n + 1, S, a, xc, x3, P, e => by
    have e' : b_X6_isGoneTo_5 N (f_X6_isGoneTo_5 N n) S a xc x3 = some P := e
    unfold b_X6_isGoneTo_5 at e'
    by_cases c : S.i 55 ≤ x3
    · rw [if_pos c] at e'
      rw [← Option.some.inj e']
    · rw [if_neg c] at e'
      obtain ⟨p4, e4, e'⟩ := hf_bind e'
      have z4 : p4.2 = S := by
        unfold f_X6_jumpTo at e4
        obtain ⟨-, e4⟩ := hf_ite e4
        by_cases q : xc = 0
        · rw [if_pos q] at e4
          rw [← Option.some.inj e4]
        · rw [if_neg q] at e4
          rw [← Option.some.inj e4]
      rw [z4] at e'
      by_cases q : gAt (S.a 52) 160 x3 = p4.1
      · rw [if_pos q] at e'
        rw [← Option.some.inj e']
      · rw [if_neg q] at e'
        exact gone_st n S a xc (x3 + 1) P e'
theorem gone_s {N a : Nat} {S : CS} {xc : Int32} {P : Int32 × CS} (e : f_X6_isGoneTo N S a xc = some P) : P.2 = S := by
  unfold f_X6_isGoneTo at e
  obtain ⟨-, e⟩ := hf_ite e
  exact gone_st N S a xc _ P e
theorem nd_pop {S X : CS} {n0 m : Nat} (h : NDC S n0) (hm : (S.i 53).toInt = (m : Int) + 1) (lt : n0 < m) (x53 : (X.i 53).toInt = (m : Int)) (xr : X.r = S.r) (xo : X.o = S.o) (x43 : X.i 43 = S.i 43) : ¬ X.i 32 = 0 ∨ NDC X n0 := by
  by_cases z : X.i 32 = 0
  · right
    obtain ⟨h1, h2, ⟨h3, h4⟩, h5⟩ := h
    refine ⟨z, x43.trans h2, ⟨by omega, by omega⟩, fun n a1 a2 => ?_⟩
    obtain ⟨a, b1, b2, b3⟩ := h5 n a1 (by omega)
    exact ⟨a, by rw [xr]; exact b1, by rw [xo]; exact b2, fun q => by rw [xo]; exact b3 q⟩
  · exact Or.inl z
theorem nd_193 {N a : Nat} {E1 : CS → Option (Unit × CS)} {E2 : CS → Option (Int32 × CS)} {S Q : CS} {v : Int32} {n0 m : Nat} {P : Unit × CS} (h : NDC S n0) (hm : (S.i 53).toInt = (m : Int) + 1) (lt : n0 < m) (kd : pj2 Q = pj2 S) (e : f_X7_endBody_193 N E1 E2 (CS.setI Q 36 v) a = some P) : ¬ P.2.i 32 = 0 ∨ NDC P.2 n0 := by
  obtain ⟨⟨z1, z2, z3, z4⟩, ⟨z5, z6⟩, ⟨z7, z8, z9, z10, z11⟩, ⟨z12, z13, z14, z15, z16, z17, z18⟩⟩ := kd_all kd
  obtain ⟨i1, -, i2, -, i3, i4, -⟩ := e_193 (n := m - 1) (by rw [z15]; omega) e
  exact nd_pop h hm lt (by omega) (i3.trans z1) (i4.trans z2) ((i1 43 (by decide) (by decide) (by decide)).trans z12)
theorem nd_do {N a : Nat} {E1 : CS → Option (Unit × CS)} {E2 : CS → Option (Int32 × CS)} (hm1 : ∀ σ, Kf (CS.i σ 32) (E1 σ)) (hm2 : ∀ σ, Kf (CS.i σ 32) (E2 σ)) {S : CS} {x2 : Int32} {P : Unit × CS} (h : ¬ S.i 43 = 205) (eD : f_X7_endDo_25 N E1 E2 S a x2 = some P) : ¬ P.2.i 32 = 0 := by
  unfold f_X7_endDo_25 f_X7_conditionInside at eD
  obtain ⟨p2, e2', eD⟩ := hf_bind eD
  have z0 : ¬ p2.2.i 32 = 0 := by
    unfold f_X1_expect at e2'
    rw [e_fnd0 h, ob_some, if_pos rfl] at e2'
    exact y_misp (ob_un e2')
  obtain ⟨-, eD⟩ := hf_ite eD
  obtain ⟨p7, e7, eD⟩ := hf_bind eD
  obtain ⟨p11, e11, eD⟩ := hf_bind eD
  obtain ⟨y1, ey1, e11⟩ := hf_bind e11
  obtain ⟨y5, ey5, e11⟩ := hf_bind e11
  obtain ⟨y9, ey9, e11⟩ := hf_bind e11
  obtain ⟨hb01, e11⟩ := hf_ite e11
  cases e11
  obtain ⟨p15, e15, eD⟩ := hf_bind eD
  obtain ⟨-, eD⟩ := hf_ite eD
  obtain ⟨p20, e20, eD⟩ := hf_bind eD
  obtain ⟨-, eD⟩ := hf_ite eD
  obtain ⟨p25, e25, eD⟩ := hf_bind eD
  obtain ⟨-, eD⟩ := hf_ite eD
  obtain ⟨p30, e30, eD⟩ := hf_bind eD
  have z7 : ¬ p7.2.i 32 = 0 := by rw [kF_X0_aim N p2.2 _ p7 e7 z0]; exact z0
  have y1' : ¬ y1.2.i 32 = 0 := by rw [kF_X1_open N p7.2 40 y1 ey1 z7]; exact z7
  have y5' : ¬ y5.2.i 32 = 0 := by rw [kF_X1_condition N E1 E2 hm1 hm2 y1.2 y5 ey5 y1']; exact y1'
  have y9' : ¬ y9.2.i 32 = 0 := by rw [kF_X1_close N y5.2 41 y9 ey9 y5']; exact y5'
  have z15 : ¬ p15.2.i 32 = 0 := by rw [kF_X1_expect N y9.2 59 p15 e15 y9']; exact y9'
  have z20 : ¬ p20.2.i 32 = 0 := by rw [fst_add e20]; exact z15
  have z25 : ¬ p25.2.i 32 = 0 := by rw [fst_add e25]; exact z20
  have z30 : ¬ p30.2.i 32 = 0 := by rw [kF_X0_aim N p25.2 _ p30 e30 z25]; exact z25
  exact fl_do eD z30
theorem nd_body {N a m n0 : Nat} {E1 : CS → Option (Unit × CS)} {E2 : CS → Option (Int32 × CS)} (hm1 : ∀ σ, Kf (CS.i σ 32) (E1 σ)) (hm2 : ∀ σ, Kf (CS.i σ 32) (E2 σ)) {S : CS} {P : Unit × CS} (h : NDC S n0) (hm : (S.i 53).toInt = (m : Int) + 1) (lt : n0 < m) (e : f_X7_endBody N E1 E2 S a = some P) : ¬ P.2.i 32 = 0 ∨ NDC P.2 n0 := by
  have t6 := h.2.1
  unfold f_X7_endBody at e
  obtain ⟨-, e⟩ := hf_ite e
  by_cases c3 : S.o a 0 = 203
  · rw [if_pos c3] at e
    have e1 := ob_un e
    unfold f_X7_endIf f_X1_skip f_X1_skip_17 at e1
    rw [e_fnd0 (show ¬ S.i 43 = 204 by rw [t6]; decide), ob_some, if_pos rfl, if_pos (Or.inl rfl), ob_some, if_pos rfl] at e1
    obtain ⟨-, e1⟩ := hf_ite e1
    obtain ⟨p23, e23, e1⟩ := hf_bind e1
    have kd := kd_X0_aim N _ _ p23 e23
    obtain ⟨⟨z1, z2, z3, z4⟩, ⟨z5, z6⟩, ⟨z7, z8, z9, z10, z11⟩, ⟨z12, z13, z14, z15, z16, z17, z18⟩⟩ := kd_all kd
    have ep := ob_un e1
    have i53 : (CS.setI p23.2 36 1).i 53 = S.i 53 := (ci_ne _ _ _ (by decide)).trans z15
    obtain ⟨q1, q2⟩ := e_pop (n := m - 1) (by rw [i53]; omega) ep
    refine nd_pop h hm lt ?_ ?_ ?_ ?_
    · rw [q1, ci_at, q2]
      omega
    · rw [q1]
      exact z1
    · rw [q1]
      exact z2
    · rw [q1, ci_ne _ _ _ (by decide), ci_ne _ _ _ (by decide)]
      exact z12
  rw [if_neg c3] at e
  by_cases c4 : S.o a 0 = 204
  · rw [if_pos c4] at e
    obtain ⟨p8, e8, e⟩ := hf_bind e
    have kd := kd_X0_aim N _ _ p8 e8
    by_cases q : p8.2.i 36 = 0
    · rw [if_pos q] at e
      obtain ⟨-, e⟩ := hf_ite e
      by_cases q6 : p8.2.o a 6 = 0
      · rw [if_pos q6] at e
        exact nd_193 h hm lt kd e
      · rw [if_neg q6] at e
        exact nd_193 h hm lt kd e
    · rw [if_neg q] at e
      exact nd_193 h hm lt kd e
  rw [if_neg c4] at e
  by_cases c6 : S.o a 0 = 206
  · rw [if_pos c6] at e
    obtain ⟨p21, e21, e⟩ := hf_bind e
    have nw : ¬ S.i 43 = 205 := by rw [t6]; decide
    have z : ¬ p21.2.i 32 = 0 := by
      unfold f_X7_endDo f_X7_endDo_19 at e21
      by_cases q : S.i 36 = 0
      · rw [if_pos q] at e21
        obtain ⟨p46, e46, e21⟩ := hf_bind e21
        rw [gone_s e46] at e21
        by_cases q1 : p46.1 = 0
        · rw [if_pos q1] at e21
          exact nd_do hm1 hm2 nw e21
        · rw [if_neg q1] at e21
          exact nd_do hm1 hm2 nw e21
      · rw [if_neg q] at e21
        exact nd_do hm1 hm2 nw e21
    left
    rw [kF_X7_endBody_193 N E1 E2 hm1 hm2 p21.2 _ P e z]
    exact z
  rw [if_neg c6] at e
  by_cases c33 : S.o a 0 = 303
  · rw [if_pos c33] at e
    obtain ⟨p26, e26, e⟩ := hf_bind e
    have kd := kd_X0_aim N _ _ p26 e26
    by_cases q : p26.2.i 36 = 0
    · rw [if_pos q] at e
      obtain ⟨p31, e31, e⟩ := hf_bind e
      rw [gone_s e31] at e
      by_cases q1 : p31.1 = 0
      · rw [if_pos q1] at e
        exact nd_193 h hm lt kd e
      · rw [if_neg q1] at e
        exact nd_193 h hm lt kd e
    · rw [if_neg q] at e
      exact nd_193 h hm lt kd e
  rw [if_neg c33] at e
  obtain ⟨p36, e36, e⟩ := hf_bind e
  obtain ⟨-, e⟩ := hf_ite e
  obtain ⟨p41, e41, e⟩ := hf_bind e
  obtain ⟨-, e⟩ := hf_ite e
  have kd : pj2 p41.2 = pj2 S := (kd_X0_aim N _ _ p41 e41).trans (kd_X0_add N _ _ _ p36 e36)
  by_cases q : p41.2.o a 7 = 0
  · rw [if_pos q] at e
    exact nd_193 h hm lt kd e
  · rw [if_neg q] at e
    obtain ⟨p47, e47, e⟩ := hf_bind e
    rw [gone_s e47] at e
    by_cases q1 : p47.1 = 0
    · rw [if_pos q1] at e
      exact nd_193 h hm lt kd e
    · rw [if_neg q1] at e
      exact nd_193 h hm lt kd e
/-- one turn: a fault, or a row less -/
theorem nd_step {N a m n0 : Nat} {E1 : CS → Option (Unit × CS)} {E2 : CS → Option (Int32 × CS)} (hm1 : ∀ σ, Kf (CS.i σ 32) (E1 σ)) (hm2 : ∀ σ, Kf (CS.i σ 32) (E2 σ)) {S : CS} {P : Unit × CS} (h : NDC S n0) (hm : (S.i 53).toInt = (m : Int) + 1) (ea : S.r 51 m = some a) (k : KTN N E1 E2 S a P) : ¬ P.2.i 32 = 0 ∨ NDC P.2 n0 := by
  obtain ⟨h1, t6, ⟨h3, h4⟩, h5⟩ := id h
  obtain ⟨a', b1, b2, b3⟩ := h5 m (by omega) (by omega)
  have eaa : a' = a := Option.some.inj (b1.symm.trans ea)
  rw [eaa] at b2 b3
  have tk : ∀ {x1 : Int32} {W : CS}, W.i 43 = 6 → f_X7_statement N E1 E2 W x1 = some P → ¬ P.2.i 32 = 0 := fun hw e => y_stF (Or.inl (Or.inl hw)) e
  rcases k with ⟨one, k⟩ | ⟨⟨z, -⟩, -⟩ | ⟨⟨z, -⟩, -⟩ | ⟨-, z, -⟩ | ⟨-, -, k⟩ | ⟨-, -, k⟩
  · have lt : n0 < m := by
      by_cases q : m = n0
      · exact absurd one (b3 q)
      · omega
    unfold f_X7_bodyTurn at k
    obtain ⟨-, k⟩ := hf_ite k
    by_cases o5 : S.o a 5 = 0
    · rw [if_pos o5] at k
      exact Or.inl (tk (show (CS.setO S a 5 1).i 43 = 6 from t6) (ob_un k))
    · rw [if_neg o5] at k
      exact nd_body hm1 hm2 h hm lt (ob_un k)
  · exact absurd z b2
  · exact absurd z b2
  · rw [t6] at z
    exact absurd z (by decide)
  · unfold f_X7_groupTurn at k
    rw [e_fnd0 (show ¬ S.i 43 = 219 by rw [t6]; decide), ob_some, if_pos rfl, e_fnd0 (show ¬ S.i 43 = 220 by rw [t6]; decide), ob_some, if_pos rfl] at k
    obtain ⟨-, k⟩ := hf_ite k
    left
    by_cases o5 : S.o a 5 = 0
    · rw [if_pos o5] at k
      exact y_misp (ob_un k)
    · rw [if_neg o5] at k
      exact tk t6 (ob_un k)
  · exact Or.inl (tk t6 k)
