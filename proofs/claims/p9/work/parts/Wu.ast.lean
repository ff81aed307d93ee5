/-! both readers: assert -/
theorem y_ntx {N : Nat} (hN : 1000 ≤ N) {d : Int32} {S : CS} {s q : RS} {t : Nat} {w : Int32 × CS} {p : Unit × CS} (hv : ENV d S s) (ht : tpI s = t) (h21 : (S.i 21).toInt + 1 ≤ 3 * (s.i 11).toInt + 8) (h43 : ¬ S.i 43 = 0) (e0 : f_X0_newTarget N S = some w) (e : f_X9_advance N w.2 = some p) (hq : f_X12_next N s = some q) : ENV d p.2 q ∧ tpI q = t ∧ (∀ r : Nat, FRB r s q) ∧ TBK s q ∧ CKX S p.2 ∧ (s.i 11).toInt + 1 ≤ (q.i 11).toInt ∧ phI q = phI s + 3 ∧ (q.i 17).toInt = (s.i 17).toInt + 1 ∧ q.i 19 = s.i 19 := by
  obtain ⟨-, n43, n44, n22, n18, -⟩ := nt_i e0
  obtain ⟨vw, -, w21⟩ := hv.nt h21 e0
  obtain ⟨a1, a2, a3, a4, a5, a6, a7, a8, a9⟩ := y_nx hN vw ht (by rw [n43]; exact h43) e hq
  refine ⟨a1, a2, a3, a4, ?_, a6, a7, a8, a9⟩
  obtain ⟨-, -, b3, -, -, -, -, -, -, -⟩ := vw.adv hN (by rw [n43]; exact h43) e hq
  have p21 : (p.2.i 21).toInt = (S.i 21).toInt + 1 := by rw [pj_21 b3]; exact w21
  have p44 : (S.i 44).toInt + 1 ≤ (p.2.i 44).toInt := by rw [hv.1.2.2.2.1.1, a1.1.2.2.2.1.1]; exact a6
  exact CKX.nt e0 a5 (by omega)
theorem y_add {N : Nat} {d : Int32} {S : CS} {s : RS} {o x : Int32} {w : Unit × CS} (hv : ENV d S s) (e : f_X0_add N S o x = some w) : ENV d w.2 s ∧ CKX S w.2 ∧ w.2.i 43 = S.i 43 ∧ w.2.i 21 = S.i 21 := by
  have kw := kd_X0_add N S o x w e
  have kp := pj2_eq kw
  exact ⟨hv.kd kw, CKX.of kp.1 kp.2.2.2.2.1 kp.2.2.2.2.2.2.2.2.2.2.2, kp.2.2.2.2.2.2.2.1, pj_21 kp.1⟩
theorem y_aim {N : Nat} {d : Int32} {S : CS} {s : RS} {x : Int32} {w : Unit × CS} (hv : ENV d S s) (e : f_X0_aim N S x = some w) : ENV d w.2 s ∧ CKX S w.2 ∧ w.2.i 43 = S.i 43 ∧ w.2.i 21 = S.i 21 := by
  have kw := kd_X0_aim N S x w e
  have kp := pj2_eq kw
  exact ⟨hv.kd kw, CKX.of kp.1 kp.2.2.2.2.1 kp.2.2.2.2.2.2.2.2.2.2.2, kp.2.2.2.2.2.2.2.1, pj_21 kp.1⟩
/-- an instruction of the reference, seen from s -/
theorem y_emit {N : Nat} {d : Int32} {S : CS} {s : RS} {t : Nat} {o x : Int32} {y : Int32 × RS} (hv : ENV d S s) (ht : tpI s = t) (h1 : 1 ≤ phI s) (e : f_X12_emit N s o x = some y) : ENV d S y.2 ∧ tpI y.2 = t ∧ (∀ r : Nat, FRB r s y.2) ∧ TBK s y.2 ∧ phI y.2 = phI s - 1 ∧ y.1 = s.i 20 ∧ (y.2.i 20).toInt = (s.i 20).toInt + 1 ∧ y.2.i 11 = s.i 11 ∧ y.2.i 17 = s.i 17 ∧ y.2.i 19 = s.i 19 ∧ y.2.i 10 = s.i 10 := by
  obtain ⟨n1, n2, n3, n4, n5, n6⟩ := em_env hv h1 e
  obtain ⟨nq, y10, y11, -, -, -, -, y17, y19, -⟩ := qj2_eq n3
  exact ⟨n1, qj_63 nq ht, fun r => FRB.of nq, n2, n4, n5, n6, y11, y17, y19, y10⟩
theorem setA_tbk {s : RS} {k j : Nat} {v : Int32} (hk : 64 ≤ k ∧ k ≤ 73) : TBK s (RS.setA s k j v) := ⟨setA_tb0 (Or.inr hk), Int.le_refl _, fun m _ => congrFun (setA_nk (by omega)) m⟩
/-- behind the condition of an assert: the last steps -/
theorem y_ast2 {N : Nat} (hN : 1000 ≤ N) {E1 : CS → Option (Unit × CS)} {E2 : CS → Option (Int32 × CS)} {d : Int32} {S : CS} {u V : RS} {t : Nat} {x1 : Int32} {c0 : Int} {R : Unit × CS} (hv : ENV d S u) (ht : tpI u = t) (t9 : t < 1000) (h1 : 1 ≤ phI u) (h65 : u.a 65 t = 2) (h66 : 0 ≤ c0 ∧ c0 ≤ (u.a 66 t).toInt ∧ c0 ≤ (u.a 67 t).toInt) (h20 : c0 ≤ (u.i 20).toInt) (e : f_X7_claim_74 N E1 E2 S x1 = some R) (hV : f_X12_asserted N u (u.i 63) = some V) : (¬ R.2.i 32 = 0 ∧ ¬ V.i 15 = 0) ∨ (ENV d R.2 V ∧ tpI V = (t : Int) - 1 ∧ FRB t u V ∧ TBZ u V ∧ CDK c0 u V ∧ CKX S R.2 ∧ V.i 75 = 1 ∧ (u.i 11).toInt + 1 ≤ (V.i 11).toInt ∧ phI u + 2 ≤ phI V ∧ (u.i 17).toInt + 1 ≤ (V.i 17).toInt ∧ V.i 19 = u.i 19 ∧ R.2.i 36 = S.i 36) := by
  unfold f_X7_claim_74 at e
  obtain ⟨p1, e1, e⟩ := hf_bind e
  obtain ⟨p2, e2, e⟩ := hf_bind e
  obtain ⟨p3, e3, e⟩ := hf_bind e
  cases e
  unfold f_X12_asserted at hV
  obtain ⟨-, hV⟩ := hf_ite hV
  rw [tp_nat ht, if_neg (show ¬ u.a 65 t = 0 by rw [h65]; decide), if_neg (show ¬ u.a 65 t = 1 by rw [h65]; decide)] at hV
  obtain ⟨y, hy, hV⟩ := hf_bind hV
  obtain ⟨i1, hV⟩ := hf_ite hV
  obtain ⟨i2, hV⟩ := hf_ite hV
  obtain ⟨b, hb, hV⟩ := hf_bind hV
  rw [ob_id] at hV
  obtain ⟨n1, n2, n3, n4, n5, n6, n7, n8, n9, n10', -⟩ := y_emit hv ht h1 hy
  obtain ⟨a1, c1, -, -⟩ := y_add n1 e1
  obtain ⟨a2, c2, -, -⟩ := y_aim a1 e2
  have f66 := (n3 (t + 1) t (by omega)).2.2.1
  have f67 := (n3 (t + 1) t (by omega)).2.2.2.1
  have k66 := clampI i1.1
  have k67 := clampI i2.1
  rw [f66] at k66
  rw [f67] at k67
  obtain ⟨z, hz⟩ : ∃ z, z = RS.setA (RS.setA y.2 22 (((y.2.a 66 t) : Int32).toNatClampNeg) (y.2.i 20)) 22 (((y.2.a 67 t) : Int32).toNatClampNeg) (y.2.i 20) := ⟨_, rfl⟩
  rw [← hz] at hb
  have ez : ENV d p2.2 z := by rw [hz]; exact setA_env (Or.inl rfl) (setA_env (Or.inl rfl) a2)
  have fz : ∀ r : Nat, FRB r y.2 z := fun r => by rw [hz]; exact (setA_frb (Or.inl rfl)).tr (setA_frb (Or.inl rfl))
  have kz : TBZ y.2 z := by rw [hz]; exact (setA_tb0 (Or.inl rfl)).tr (setA_tb0 (Or.inl rfl))
  have iz : z.i = y.2.i := by rw [hz]; rfl
  have cz : CDK c0 y.2 z := by
    refine ⟨by rw [iz]; exact Int.le_refl _, fun j hj => ?_⟩
    rw [hz]
    rw [f66, f67]
    exact (setA_ne (by omega)).trans (setA_ne (by omega))
  clear hz
  have tz : tpI z = t := by
    show (z.i 63).toInt = (t : Int)
    rw [iz]
    exact n2
  rcases y_need hN ez (c := 59) (d := 59) (Or.inl ⟨by decide, by decide⟩) (by decide) (by decide) (by decide) e3 hb with ⟨o1, o2, o3⟩ | ⟨o1, o2, o3, o4, o5, o6, o7, o8, o9, o10, o11, o12⟩
  · exact Or.inl ⟨o2, krf_f_X12_over N b.2 1 V hV o3⟩
  · obtain ⟨v1, v2, v3, v4, v5, v6, v7, v8, v9, v10⟩ := y_over o3 (qj_63 o4 tz) t9 hV
    have t17 : (b.2.i 17).toInt = (u.i 17).toInt + 1 := by rw [o6, t17_up (N := N) ez, iz, n9]
    have pz : phI z = phI y.2 := by unfold phI; rw [iz]
    have pb : phI b.2 = phI z + 3 := by
      unfold phI
      rw [o8, o6, t17_up (N := N) ez]
      omega
    rw [iz, n8] at o7
    have ck : CKX S p3.2 := (c1.tr c2).tr (CKX.of o5 o10 o11)
    have b20 : (b.2.i 20).toInt = (u.i 20).toInt + 1 := by rw [o8, iz, n7]
    exact Or.inr ⟨v1, v2, (((n3 t).tr (fz t)).tr (FRB.of o4)).tr (v3 t), ((n4.1.tr kz).tr (TBZ.of o4)).tr v4.1, (((n4.2.wk h20).tr cz).tr ⟨by rw [o8]; exact Int.le_refl _, fun j _ => by rw [o9]⟩).tr (v4.2.wk (by omega)), ck, v5, by rw [v8]; exact o7, by omega, by rw [v9]; omega, by rw [v10, o12, iz, n10'], ck.1.2.1⟩
set_option maxHeartbeats 4000000 in
theorem sx_assert {N : Nat} (hN : 1000 ≤ N) {E1 : CS → Option (Unit × CS)} {E2 : CS → Option (Int32 × CS)} (hm1 : ∀ σ, Kf (CS.i σ 32) (E1 σ)) (hm2 : ∀ σ, Kf (CS.i σ 32) (E2 σ)) (hE : SXR N 18 E1) (hE2 : SXN N 22 E2) : SXK N 8 217 (fun S s => (S.i 21).toInt ≤ 3 * (s.i 11).toInt) (f_X7_claim N E1 E2) := by
  intro d S s U n t R hv h21 h36 ht hk hs h2 h43 e g
  obtain ⟨m, V, hV, g2⟩ := rl_8 g ht hv.1.2.1 hk
  unfold f_X12_asserted at hV
  obtain ⟨hib, hV⟩ := hf_ite hV
  have t9 : t < 1000 := by
    have h2 : (s.i 63).toInt = (t : Int) := ht
    have := hib.2
    omega
  rw [tp_nat ht, if_pos hs] at hV
  obtain ⟨q, hq, hV⟩ := hf_bind hV
  obtain ⟨y, hy, hV⟩ := hf_bind hV
  rw [ob_id] at hV
  unfold f_X7_claim at e
  obtain ⟨w0, e0, e⟩ := hf_bind e
  obtain ⟨p5, e5, e⟩ := hf_bind e
  obtain ⟨p9, e9, e⟩ := hf_bind e
  obtain ⟨p13, e13, e⟩ := hf_bind e
  obtain ⟨p17, e17, e⟩ := hf_bind e
  obtain ⟨p21, e21, e⟩ := hf_bind e
  obtain ⟨p25, e25, e⟩ := hf_bind e
  obtain ⟨a1, tq, fq, kq, cq, l11, pq, q17, q19⟩ := y_ntx hN hv ht (by omega) (by rw [h43]; decide) e0 e5 hq
  obtain ⟨b1, c1, -, -⟩ := y_add a1 e9
  obtain ⟨n1, n2, n3, n4, n5, n6, n7, n8, n9, n10', -⟩ := y_emit b1 tq (by omega) hy
  have s20 := hv.2.2.2.2.2.2.1
  have q20 : (s.i 20).toInt ≤ (q.i 20).toInt := kq.2.1
  have y66 : (RS.setA y.2 66 t y.1).a 66 t = y.1 := setA_at
  have ey : ENV d p9.2 (RS.setA y.2 66 t y.1) := setA_env (Or.inr (by omega)) n1
  have fy : FRB t y.2 (RS.setA y.2 66 t y.1) := setA_frb (Or.inr ⟨by omega, by omega, Nat.le_refl _⟩)
  have ky : TBK y.2 (RS.setA y.2 66 t y.1) := setA_tbk (by omega)
  have y64 : (RS.setA y.2 66 t y.1).a 64 t = 8 := (n3 (t + 1) t (by omega)).1.trans ((fq (t + 1) t (by omega)).1.trans hk)
  obtain ⟨z, hz⟩ : ∃ z, z = RS.setA y.2 66 t y.1 := ⟨_, rfl⟩
  have iz : z.i = y.2.i := by rw [hz]; rfl
  rw [← hz] at hV y66 ey fy ky y64
  clear hz
  have tz : tpI z = t := by
    show (z.i 63).toInt = (t : Int)
    rw [iz]
    exact n2
  have pz : phI z = phI s + 2 := by
    have : phI z = phI y.2 := by unfold phI; rw [iz]
    omega
  have fin74 : ∀ {X : CS}, ¬ X.i 32 = 0 → f_X7_claim_74 N E1 E2 X w0.1 = some R → ¬ R.2.i 32 = 0 := fun z e => by rw [kF_X7_claim_74 N E1 E2 hm1 hm2 _ w0.1 R e z]; exact z
  have f25 : ¬ p25.2.i 32 = 0 → ¬ R.2.i 32 = 0 := fun z => by
    by_cases c : p25.1 = 0
    · rw [if_pos c] at e
      obtain ⟨w, ew, e⟩ := hf_bind e
      exact fin74 (by rw [fst_add ew]; exact z) e
    · rw [if_neg c] at e
      obtain ⟨w, ew, e⟩ := hf_bind e
      exact fin74 (by rw [kF_X1_expression N E1 E2 hm1 hm2 p25.2 w ew z]; exact z) e
  have f13 : ¬ p13.2.i 32 = 0 → ¬ R.2.i 32 = 0 := fun z => by
    have z1 : ¬ p17.2.i 32 = 0 := by rw [fst_add e17]; exact z
    have z2 : ¬ p21.2.i 32 = 0 := by rw [fst_add e21]; exact z1
    exact f25 (by rw [kF_X1_skip N p21.2 58 p25 e25 z2]; exact z2)
  rcases y_cond hN hm1 hm2 hE2 ey tz (by omega) e13 hV g2 with ⟨x1, x2⟩ | ⟨m2, u, g3, ⟨w1, w2, ⟨f0, f1, f2, -⟩, w4, w5, w6, w7, w8, w9, w10⟩, -, -⟩
  · exact Or.inl ⟨f13 x1, x2⟩
  obtain ⟨m3, V3, hV3, g4⟩ := rl_8 g3 w2 w1.1.2.1 (f0.trans y64)
  unfold f_X12_asserted at hV3
  obtain ⟨-, hV3⟩ := hf_ite hV3
  rw [tp_nat w2, if_neg (show ¬ u.a 65 t = 0 by rw [f1]; decide), if_pos f1] at hV3
  obtain ⟨j, hj, hV3⟩ := hf_bind hV3
  obtain ⟨j1, j2, j3, j4, j5, j6, j7, j8, j9, j10, j11⟩ := y_emit w1 w2 (by omega) hj
  obtain ⟨a17, c17, i17, -⟩ := y_add j1 e17
  obtain ⟨a21, c21, i21, -⟩ := y_add a17 e21
  -- behind the condition: the frame's second mark
  obtain ⟨k, hk2⟩ : ∃ k, k = RS.setA j.2 67 t j.1 := ⟨_, rfl⟩
  have ek : ENV d p21.2 k := by rw [hk2]; exact setA_env (Or.inr (by omega)) a21
  have fk : FRB t j.2 k := by rw [hk2]; exact setA_frb (Or.inr ⟨by omega, by omega, Nat.le_refl _⟩)
  have kk : TBK j.2 k := by rw [hk2]; exact setA_tbk (by omega)
  have ik : k.i = j.2.i := by rw [hk2]; rfl
  have k67 : k.a 67 t = j.1 := by rw [hk2]; exact setA_at
  have k66 : k.a 66 t = y.1 := by
    rw [hk2]
    show j.2.a 66 t = y.1
    rw [(j3 (t + 1) t (by omega)).2.2.1, f2]
    exact y66
  have k64 : k.a 64 t = 8 := by
    rw [hk2]
    show j.2.a 64 t = 8
    rw [(j3 (t + 1) t (by omega)).1, f0]
    exact y64
  rw [← hk2] at hV3
  clear hk2
  have tk : tpI k = t := by
    show (k.i 63).toInt = (t : Int)
    rw [ik]
    exact j2
  have pk : phI k = phI u - 1 := by
    have : phI k = phI j.2 := by unfold phI; rw [ik]
    omega
  have u20 : (y.2.i 20).toInt ≤ (u.i 20).toInt := by
    have := w5.2.1
    rw [iz] at this
    exact this
  have k20 : (k.i 20).toInt = (u.i 20).toInt + 1 := by rw [ik]; exact j7
  have y1i : y.1.toInt = (q.i 20).toInt := by rw [n6]
  have j1i : j.1.toInt = (u.i 20).toInt := by rw [j6]
  have tbk : TBK s k := ((((kq.tr n4).tr ky).tr w5).tr j4).tr kk
  have frk : FRB t s k := (((((fq t).tr (n3 t)).tr fy).tr w4).tr (j3 t)).tr fk
  have ckk : CKX S p21.2 := (((cq.tr c1).tr w6).tr c17).tr c21
  have k11 : (s.i 11).toInt + 1 ≤ (k.i 11).toInt := by
    rw [ik, j8]
    rw [iz, n8] at w7
    omega
  have k17 : (s.i 17).toInt + 1 ≤ (k.i 17).toInt := by
    rw [ik, j9]
    rw [iz, n9] at w9
    omega
  have k19 : k.i 19 = s.i 19 := by rw [ik, j10, w10, iz, n10', q19]
  have w8' : phI s + 3 ≤ phI u := by omega
  -- the last steps
  have last : ∀ (X : CS) (v V4 : RS) (m4 : Nat), ENV d X v → tpI v = t → v.a 64 t = 8 → v.a 65 t = 2 → v.a 66 t = y.1 → v.a 67 t = j.1 → FRB t k v → TBK k v → CKX p21.2 X → (k.i 11).toInt ≤ (v.i 11).toInt → 1 ≤ phI v → phI s - 1 ≤ phI v → (k.i 17).toInt ≤ (v.i 17).toInt → v.i 19 = k.i 19 → f_X7_claim_74 N E1 E2 X w0.1 = some R → f_X12_parse_10 N m4 v = some U → (¬ R.2.i 32 = 0 ∧ ¬ U.i 15 = 0) ∨ ∃ (m : Nat) (u : RS), f_X12_parse_10 N m u = some U ∧ XO d t S s (CS.setI R.2 36 1) u ∧ (u.i 75 = R.2.i 36 ∧ (R.2.i 36 = 0 ∨ R.2.i 36 = 1)) := fun X v V4 m4 h1 h2 h3 h4 h5 h6 h7 h8 h9 h10 h11 h12 h13 h14 eX gX => by
    obtain ⟨m5, V5, hV5, g6⟩ := rl_8 gX h2 h1.1.2.1 h3
    have v20 := h8.2.1
    rcases y_ast2 (c0 := (s.i 20).toInt) hN h1 h2 t9 h11 h4 ⟨by omega, by rw [h5]; omega, by rw [h6]; omega⟩ (by omega) eX hV5 with ⟨z1, z2⟩ | ⟨o1, o2, o3, o4, o5, o6, o7, o8, o9, o10, o11, o12⟩
    · exact Or.inl ⟨z1, u_flt g6 z2⟩
    · have ck : CKX S R.2 := (ckk.tr h9).tr o6
      refine Or.inr ⟨m5, V5, g6, ⟨o1.s36, o2, (frk.tr h7).tr o3, ⟨(tbk.1.tr h8.1).tr o4, (tbk.2.tr (h8.2.wk (by omega))).tr o5⟩, ck.s36 h36, by omega, by omega, by omega, by rw [o11, h14, k19]⟩, ?_⟩
      rw [o7, ck.1.2.1]
      exact ⟨h36.symm, Or.inr h36⟩
  have i58 := tk_is ek (a := 58) (b := 58) (Or.inl ⟨by decide, by decide⟩) (by decide)
  by_cases c58 : p21.2.i 43 = 58
  · have t58 := i58.mp c58
    rw [if_pos (show j.2.i 10 = 58 by rw [← ik]; exact t58)] at hV3
    obtain ⟨b, eb, hb⟩ := e_skip1 c58 e25
    rw [hb, if_neg n10] at e
    obtain ⟨r, er, e⟩ := hf_bind e
    obtain ⟨q2, hq2, hV3⟩ := hf_bind hV3
    rw [ob_id] at hV3
    obtain ⟨d1, d2, d3, d4, d5, d6, d7, d8, d9⟩ := y_nx hN ek tk (by rw [c58]; decide) eb hq2
    rcases y_expr hN hm1 hm2 hE d1 d2 (by omega) er hV3 g4 with ⟨x1, x2⟩ | ⟨m4, v, g5, ⟨y1, y2, ⟨r0, r1, r2, r3, -⟩, y4, y5, y6, y7, y8, y9, y10⟩⟩
    · exact Or.inl ⟨fin74 x1 e, x2⟩
    · exact last r.2 v V3 m4 y1 y2 (r0.trans ((d3 (t + 1) t (by omega)).1.trans k64)) r1 (r2.trans ((d3 (t + 1) t (by omega)).2.2.1.trans k66)) (r3.trans ((d3 (t + 1) t (by omega)).2.2.2.1.trans k67)) ((d3 t).tr y4) (d4.tr y5) (d5.tr y6) (by omega) (by omega) (by omega) (by omega) (y10.trans d9) e g5
  · have t58 : ¬ k.i 10 = 58 := fun z => c58 (i58.mpr z)
    rw [if_neg (show ¬ j.2.i 10 = 58 by rw [← ik]; exact t58)] at hV3
    rw [e_skip0 c58] at e25
    cases e25
    have e' : ((f_X0_add N p21.2 0 0).bind fun p30 => f_X7_claim_74 N E1 E2 p30.2 w0.1) = some R := (if_pos rfl).symm.trans e
    obtain ⟨r, er, e'⟩ := hf_bind e'
    obtain ⟨x, hx, hV3⟩ := hf_bind hV3
    cases hV3
    obtain ⟨b1', b2', b3', b4', b5', b6', b7', b8', b9', b10', -⟩ := y_emit ek tk (by omega) hx
    obtain ⟨ar, cr, -, -⟩ := y_add b1' er
    obtain ⟨v, hv2⟩ : ∃ v, v = RS.setA x.2 65 t 2 := ⟨_, rfl⟩
    have ev : ENV d r.2 v := by rw [hv2]; exact setA_env (Or.inr (by omega)) ar
    have fv : FRB t x.2 v := by rw [hv2]; exact setA_frb (Or.inr ⟨by omega, by omega, Nat.le_refl _⟩)
    have kv : TBK x.2 v := by rw [hv2]; exact setA_tbk (by omega)
    have iv : v.i = x.2.i := by rw [hv2]; rfl
    have v65 : v.a 65 t = 2 := by rw [hv2]; exact setA_at
    have v6x : ∀ k : Nat, ¬ k = 65 → v.a k t = x.2.a k t := fun k h => by rw [hv2]; exact congrFun (setA_nk h) t
    rw [← hv2] at g4
    clear hv2
    have pv : phI v = phI k - 1 := by
      have : phI v = phI x.2 := by unfold phI; rw [iv]
      omega
    refine last r.2 v V m3 ev ?_ ?_ v65 ?_ ?_ ((b3' t).tr fv) (b4'.tr kv) cr (by rw [iv, b8']; exact Int.le_refl _) (by omega) (by omega) (by rw [iv, b9']; exact Int.le_refl _) (by rw [iv, b10']) e' g4
    · show (v.i 63).toInt = (t : Int)
      rw [iv]
      exact b2'
    · rw [v6x 64 (by decide), (b3' (t + 1) t (by omega)).1]
      exact k64
    · rw [v6x 66 (by decide), (b3' (t + 1) t (by omega)).2.2.1]
      exact k66
    · rw [v6x 67 (by decide), (b3' (t + 1) t (by omega)).2.2.2.1]
      exact k67
