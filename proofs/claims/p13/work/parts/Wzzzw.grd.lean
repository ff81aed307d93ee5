/-! both readers: a try's block ends, or a catch's -/
theorem RFR.mTy {S : CS} {s : RS} {a t g w : Nat} (ty : isTy (S.o a 0)) (h : FTR s t g w (S.o a 0) (S.o a 8) ∧ FTS s t (S.o a 0) (S.o a 3) (S.o a 6)) : RFR S s a t g w := by
  have n : ∀ v : Int32, ¬ isTy v → ¬ S.o a 0 = v := fun v hv q => hv (by rw [← q]; exact ty)
  exact ⟨fun q => absurd q (n 300 (by unfold isTy; decide)), fun q => absurd q (n 301 (by unfold isTy; decide)), fun q => absurd q (n 302 (by unfold isTy; decide)), fun q => absurd q (n 303 (by unfold isTy; decide)), fun q => absurd q (n 203 (by unfold isTy; decide)), fun q => absurd q (n 204 (by unfold isTy; decide)), fun q => absurd q (n 205 (by unfold isTy; decide)), fun q => absurd q (n 206 (by unfold isTy; decide)), fun q => absurd q (n 207 (by unfold isTy; decide)), fun q => absurd q (n 304 (by unfold isTy; decide)), fun q => absurd q (n 212 (by unfold isTy; decide)), fun q => absurd q (n 218 (by unfold isTy; decide)), fun _ => h⟩
theorem COR.injG {d : Int32} {B : CS} {b : RS} {t0 : Nat} {L : List CEL} {x : Int} {S : CS} {s : RS} {c1 : CEL} (h : COR d B b t0 (c1 :: L) x S s) : ∀ y ∈ L, isGo (S.o y.2.1 0) → ¬ ceG y = ceG c1 := fun y hy g z => by
  have ord := STK.ord L c1 _ _ _ h.2.1
  have := ((STK.inj (c1 :: L) _ _ _ h.2.1).2 y (List.mem_cons_of_mem _ hy) c1 List.mem_cons_self (ord y hy)).2.1
  have := nGo1 g
  omega
theorem rsI_ov {r : RS} {k : Nat} {v w : Int32} : RS.setI (RS.setI r k v) k w = RS.setI r k w := by
  have e : va_up (va_up r.i k v) k w = va_up r.i k w := by
    funext j
    show (if j = k then w else if j = k then v else r.i j) = if j = k then w else r.i j
    by_cases z : j = k
    · rw [if_pos z, if_pos z]
    · rw [if_neg z, if_neg z, if_neg z]
  show ((va_up (va_up r.i k v) k w, r.l, r.a, r.b) : RS) = (va_up r.i k w, r.l, r.a, r.b)
  rw [e]
/-- the row has no place of its own that waits -/
theorem plf_ty {S : CS} {s : RS} {c1 : CEL} {k : Int} (ty : isTy (S.o c1.2.1 0)) : ¬ PLF S s c1 k := fun z => by
  unfold PLF at z
  rcases ty with t | t | t | t <;> rw [t] at z <;> rcases z with ⟨z | z, -⟩ | ⟨z, -⟩ | ⟨z | z, -⟩ <;> exact absurd z (by decide)
theorem ty_ngo {v : Int32} (ty : isTy v) : ¬ isGo v := fun z => by
  rcases ty with t | t | t | t <;> rw [t] at z <;> unfold isGo at z <;> exact absurd z (by decide)
/-- a try's row as another one -/
theorem COL.chT {S R : CS} {s u : RS} {L : List CEL} {c1 : CEL} {col : Nat → Option (Nat × Bool)} {b20 : Int} (hc : COL S s (c1 :: L) col b20) (b0 : 0 ≤ b20) (inj : ∀ y ∈ L, isGo (S.o y.2.1 0) → ¬ ceG y = ceG c1) (eo : ∀ y ∈ L, R.o y.2.1 = S.o y.2.1) (hin : INL R s (ceT c1) L) (f : FRB (ceT c1) s u) (tb : TBR s u) (cd : CDK (s.i 20).toInt s u) (ty : isTy (R.o c1.2.1 0)) : COL R u (c1 :: L) (cdr (ceG c1) col) b20 := (((hc.drop inj).eo eo).mv b0 hin (CKZ.rf R) f tb cd).add (ty_ngo ty) (fun z => ty_ngo ty (Or.inr (Or.inl z))) (fun _ => plf_ty ty)
set_option maxHeartbeats 4000000 in
theorem grd_1 {N : Nat} (hN : 1000 ≤ N) {d : Int32} {B : CS} {b : RS} {t0 n : Nat} {L : List CEL} {x : Int} {S : CS} {s U : RS} {c1 c : CEL} {R : Unit × CS} {Aj : JBA} (hC : COR d B b t0 (c1 :: c :: L) x S s) (tp : TOP S s c1) (hM : MLI c1 S s) (h36 : S.i 36 = 0 ∨ S.i 36 = 1) (hs : S.o c1.2.1 0 = 213 ∨ S.o c1.2.1 0 = 215) (k125 : S.i 43 = 125) (bz : BAZ B b (c1 :: c :: L)) (hT : t0 ≤ ceT c1) (e : f_X7_endList N S c1.2.1 = some R) (g : f_X12_parse_10 N n s = some U) : ∃ (Y : CS) (m : Nat) (u : RS), f_X7_endGuarded_46 N Y c1.2.1 = some R ∧ f_X12_parse_10 N m u = some U ∧ COR d B b t0 (c1 :: c :: L) (-9) (CS.setO Y c1.2.1 0 305) u ∧ TOP (CS.setO Y c1.2.1 0 305) u c1 ∧ tpI u = (ceT c1 : Int) ∧ Y.i 50 = Y.o c1.2.1 3 ∧ (Y.i 36 = 0 ∨ Y.i 36 = 1) ∧ 8 * ((u.i 38).toInt - 2) + 1 ≤ (u.i 11).toInt ∧ (JRW Aj U B b (vws S s (c1 :: c :: L)) S s → JR5 Aj U B b (vws (CS.setO Y c1.2.1 0 305) u (c :: L)) (vw (CS.setO Y c1.2.1 0 305) u c1) (CS.setO Y c1.2.1 0 305) u) := by
  obtain ⟨no1, n305, ts, h64, hmode, -⟩ := hM
  have ty : isTy (S.o c1.2.1 0) := by
    rcases hs with z | z
    · exact Or.inl z
    · exact Or.inr (Or.inl z)
  have wl : isWl (S.o c1.2.1 0) := by
    rcases hs with z | z
    · exact Or.inl z
    · exact Or.inr (Or.inl z)
  have ngo := ty_ngo ty
  have wd : wid (S.o c1.2.1 0) = 3 := by
    rcases hs with z | z <;> rw [z] <;> rfl
  obtain ⟨T, hTc⟩ : ∃ T : Nat, T = ceT c1 := ⟨_, rfl⟩
  have ix : ceT c1 + wid (S.o c1.2.1 0) - 1 = T + 2 := by omega
  rw [ix] at h64 hmode
  have ts' : tpI s = ((T + 2 : Nat) : Int) := by rw [ts, wd]; omega
  have hv := hC.1
  have k10 := (tk_is hv (a := 125) (b := 125) (Or.inl ⟨by decide, by decide⟩) (by decide)).mp k125
  obtain ⟨m1, e1, k1, m2, e2, k2, cst⟩ := STK.mem _ _ _ _ hC.2.1 c1 List.mem_cons_self
  obtain ⟨⟨z64, zid, zwh, zwl⟩, zs213, zs215, -, -, zb⟩ := cst.2.2.1.2.2.2.2.2.2.2.2.2.2.2.2 ty
  rw [← hTc] at z64 zid zwh zwl zs213 zs215
  have fb : s.a 64 (T + 1) = 3 ∧ s.a 65 (T + 1) = 1 := by
    rcases hs with z | z
    · exact ⟨(zs213 z).2.1.1.1, (zs213 z).2.1.1.2.1⟩
    · exact ⟨(zs215 z).2.1.1, (zs215 z).2.1.2.1⟩
  obtain ⟨m0, V0, g0, n1, n2, n3, n4, n5, n6, n7, n8, n9, n10'⟩ := y_lend hv ts' h64 hmode h36 (Or.inl k10) g
  have fT1 := n3 (T + 1) (by omega)
  have fT0 := fun k h1 h2 => (n3.mo (by omega) : FRB (T + 1) s V0).all k h1 h2
  have tV : tpI V0 = ((T + 1 : Nat) : Int) := by rw [n2]; omega
  have fr0 : FRB T s V0 := n3.mo (by omega)
  obtain ⟨t1, t2, t3, t4, t5, t6, t7, t8, t9, t10⟩ := n4.1.1
  -- the reference's block
  obtain ⟨m2, V, hV, g2⟩ := rl_3 g0 tV n1.1.2.1 (fT1.1.trans fb.1)
  unfold f_X12_block at hV
  obtain ⟨hib, hV⟩ := hf_ite hV
  have tt : T + 1 < 1000 := by
    have h2 : (V0.i 63).toInt = ((T + 1 : Nat) : Int) := tV
    have := hib.2
    omega
  rw [tp_nat tV, if_neg (show ¬ V0.a 65 (T + 1) = 0 by rw [fT1.2.1, fb.2]; decide)] at hV
  obtain ⟨p3, hsh, hV⟩ := hf_bind hV
  -- the class
  unfold f_X7_endList at e
  obtain ⟨-, e⟩ := hf_ite e
  rw [if_neg (by rcases hs with z | z <;> rw [z] <;> decide), if_neg (by rcases hs with z | z <;> rw [z] <;> decide)] at e
  unfold f_X7_endList_72 at e
  obtain ⟨p4, e4, e⟩ := hf_bind e
  obtain ⟨A, q, eA, hq, evA, R4, V4, -⟩ := y_clsA hN n1 (c := 125) (d := 125) (Or.inl ⟨by decide, by decide⟩) (by decide) (by decide) (by decide) k125 e4 hsh
  obtain ⟨-, a2, a3, a4, a5, a6, a7, a8, a9, a10⟩ := n1.adv hN (by rw [k125]; decide) eA hq
  have ck := CKX.of a3 a8 a9
  have tk := TBK.of a2 (by rw [a6]; exact Int.le_refl _) (fun j _ => by rw [a7])
  rw [n8] at a5
  have q17 : (q.i 17).toInt = (s.i 17).toInt + 1 := by rw [a4, t17_up (N := N) n1, n9]
  have phq : phI q = phI V0 + 3 := by
    unfold phI
    rw [a6, q17, n9]
    omega
  obtain ⟨u1, u2, u3, u4, u5, u6, u7, u8, u9, u10⟩ := tk.1.1
  obtain ⟨-, -, -, -, -, -, -, -, -, -, j36, -, j38, j50, j53, j54, j55, j56, -, -, -, -, a52, erA, eoA, eolA, -, j21, -⟩ := pj_eq a3
  have eo1 : A.2.o c1.2.1 = S.o c1.2.1 := by rw [eoA]
  obtain ⟨-, e⟩ := hf_ite e
  have o4 : ∀ w : Int32, (CS.setI p4.2 50 w).o c1.2.1 0 = S.o c1.2.1 0 := fun w => by
    show p4.2.o c1.2.1 0 = S.o c1.2.1 0
    rw [R4]
    show A.2.o c1.2.1 0 = S.o c1.2.1 0
    rw [eo1]
  have eg : f_X7_endGuarded N (CS.setI p4.2 50 (p4.2.o c1.2.1 3)) c1.2.1 = some R := by
    rw [o4] at e
    rcases hs with z | z
    · rw [if_neg (by rw [z]; decide), if_pos z] at e
      exact ob_un e
    · rw [if_neg (by rw [z]; decide), if_neg (by rw [z]; decide), if_neg (by rw [z]; decide), if_pos z] at e
      exact ob_un e
  clear e
  have o3 : p4.2.o c1.2.1 3 = A.2.o c1.2.1 3 := by rw [R4]; rfl
  rw [o3, R4] at eg
  unfold f_X7_endGuarded at eg
  obtain ⟨-, eg⟩ := hf_ite eg
  obtain ⟨q2, eq2, eg⟩ := hf_bind eg
  obtain ⟨-, eg⟩ := hf_ite eg
  obtain ⟨q7, eq7, eg⟩ := hf_bind eg
  obtain ⟨-, eg⟩ := hf_ite eg
  obtain ⟨l1, el1, hl1⟩ := cm_leave (by decide) (by decide) eq2
  obtain ⟨l2, el2, hl2⟩ := cm_leave (by decide) (by decide) el1
  rw [hl1, hl2] at eq7
  obtain ⟨r1, er1, hr1⟩ := cm_aim (by decide) eq7
  obtain ⟨r2, er2, hr2⟩ := cm_aim (by decide) er1
  have kdD : pj2 r2.2 = pj2 A.2 := (kd_X0_aim N _ _ r2 er2).trans (kd_leave el2)
  obtain ⟨D, hDD⟩ : ∃ D, D = r2.2 := ⟨_, rfl⟩
  have q7e : q7.2 = CS.setI (CS.setI D 34 (A.2.i 34 - 1)) 50 (A.2.o c1.2.1 3) := by rw [hr1, hr2, hDD]
  rw [← hDD] at kdD
  have el2' : f_X7_leave N A.2 (A.2.o c1.2.1 9) (A.2.o c1.2.1 2) = some l2 := el2
  have er2' : f_X0_aim N l2.2 (l2.2.o c1.2.1 10) = some r2 := er2
  have hDr := hDD
  clear hDD hr1 hr2 er1 er2 hl1 hl2 el1 el2 eq7 eq2
  obtain ⟨⟨z1, z2, z3, z4⟩, ⟨z5, z6⟩, ⟨z7, z8, z9, z10, z11⟩, ⟨z12, z13, z14, z15, z16, z17, z18⟩⟩ := kd_all kdD
  have evD : ENV d D q := evA.kd kdD
  have oD : D.o = S.o := z2.trans eoA
  have rD : D.r = S.r := z1.trans erA
  have w3 : A.2.o c1.2.1 3 = S.o c1.2.1 3 := by rw [eo1]
  -- what the row says of its end
  have o6 : q7.2.o c1.2.1 6 = S.o c1.2.1 6 := by
    rw [q7e]
    show D.o c1.2.1 6 = _
    rw [oD]
  have q736 : q7.2.i 36 = S.i 36 := by
    rw [q7e]
    show D.i 36 = _
    rw [z10, j36]
  have hY : ∃ e' : Int32, (e' = 0 ∨ e' = 1) ∧ f_X7_endGuarded_46 N (CS.setO q7.2 c1.2.1 6 e') c1.2.1 = some R ∧ ((S.o c1.2.1 6 = 0 ∧ e' = S.i 36) ∨ (S.o c1.2.1 6 = 1 ∧ e' = 1)) := by
    rw [o6, q736] at eg
    rcases zb with z | z
    · rw [if_pos z] at eg
      rcases h36 with y | y
      · rw [if_pos y] at eg
        exact ⟨0, Or.inl rfl, eg, Or.inl ⟨z, y.symm⟩⟩
      · rw [if_neg (by rw [y]; decide)] at eg
        exact ⟨1, Or.inr rfl, eg, Or.inl ⟨z, y.symm⟩⟩
    · rw [if_neg (by rw [z]; decide)] at eg
      exact ⟨1, Or.inr rfl, eg, Or.inr ⟨z, rfl⟩⟩
  obtain ⟨e', he', eY, hcase⟩ := hY
  clear eg
  -- the reference's try
  have tq : tpI q = ((T + 1 : Nat) : Int) := qj_63 a2 tV
  have t63 : (q.i 63 - 1).toInt = (T : Int) := by
    have z := tp_sub tq tt
    omega
  have qf := fun k h1 h2 => ((FRB.of a2 : FRB (T + 1) V0 q).all k h1 h2).trans (fT0 k h1 h2)
  have hVe : V = RS.setI (RS.setI (RS.setI q 19 (q.i 19 - 1)) 38 (q.a 66 (T + 1))) 63 (q.i 63 - 1) := by
    rw [V4] at hV
    have z := Option.some.inj hV
    rw [← z]
    rfl
  have tVV : tpI V = (T : Int) := by
    rw [hVe]
    exact t63
  have Va : V.a = q.a := by rw [hVe]; rfl
  have V75 : V.i 75 = S.i 36 := by
    rw [hVe]
    show q.i 75 = S.i 36
    rw [(qj_eq a2).2.2.2.2.2.2.2.2.2.2.2.2.2.2.2.2.2.1]
    exact n5
  obtain ⟨m3, V2, hV2, g3⟩ := rl_15 g2 tVV (by rw [hVe]; exact evA.1.2.1) (by rw [Va]; exact (qf 64 (by decide) (by decide)).trans z64)
  have ph1 : 1 ≤ phI q := by
    have := n1.2.2.2.2.2.2.2.1
    omega
  -- what comes of it in the reference
  have ref : ∃ (em : Int32 × RS) (op : Int32), f_X12_emit N (RS.setA q 68 T e') op (s.a 66 T) = some em ∧ V2 = RS.setA (RS.setI (RS.setI (RS.setI em.2 19 (q.i 19 - 1)) 38 (S.o c1.2.1 3)) 63 (q.i 63 - 1)) 65 T 2 ∧ (S.o c1.2.1 0 = 213 → op = 33) ∧ (S.o c1.2.1 0 = 215 → op = 34) := by
    have V66 : V.a 66 T = s.a 66 T := by rw [Va]; exact qf 66 (by decide) (by decide)
    have com : ∀ (op : Int32) (p : Int32 × RS), f_X12_emit N (RS.setA V 68 T e') op (s.a 66 T) = some p → ∃ em : Int32 × RS, f_X12_emit N (RS.setA q 68 T e') op (s.a 66 T) = some em ∧ p.2 = RS.setI (RS.setI (RS.setI em.2 19 (q.i 19 - 1)) 38 (q.a 66 (T + 1))) 63 (q.i 63 - 1) := fun op p hp => by
      rw [hVe] at hp
      have hp' : f_X12_emit N (RS.setI (RS.setI (RS.setI (RS.setA q 68 T e') 19 (q.i 19 - 1)) 38 (q.a 66 (T + 1))) 63 (q.i 63 - 1)) op (s.a 66 T) = some p := hp
      obtain ⟨y1, hy1, -, w1⟩ := cm_emit (by decide) hp'
      obtain ⟨y2, hy2, -, w2⟩ := cm_emit (by decide) hy1
      obtain ⟨em, hem, -, w3'⟩ := cm_emit (by decide) hy2
      exact ⟨em, hem, by rw [w1, w2, w3']⟩
    unfold f_X12_trying at hV2
    obtain ⟨-, hV2⟩ := hf_ite hV2
    rw [tp_nat tVV] at hV2
    rcases hs with z | z
    · obtain ⟨y65, y301, y6⟩ := zs213 z
      have V65 : V.a 65 T = 1 := by rw [Va]; exact (qf 65 (by decide) (by decide)).trans y65
      have ee : e' = S.i 36 := by
        rcases hcase with ⟨-, w⟩ | ⟨w, -⟩
        · exact w
        · rw [y6] at w
          exact absurd w (by decide)
      have h2 : f_X12_trying_287 N (RS.setA V 68 T e') (V.i 63) = some V2 := by
        rw [V65, if_neg (by decide), if_pos rfl, V75] at hV2
        rw [ee]
        rcases h36 with w | w
        · rw [if_pos w] at hV2
          rw [w]
          exact hV2
        · rw [if_neg (by rw [w]; decide)] at hV2
          rw [w]
          exact hV2
      unfold f_X12_trying_287 at h2
      obtain ⟨-, h2⟩ := hf_ite h2
      rw [tp_nat tVV] at h2
      obtain ⟨p44, hp44, h2⟩ := hf_bind h2
      have e66 : (RS.setA V 68 T e').a 66 T = s.a 66 T := by rw [setA_nk (by decide)]; exact V66
      rw [e66] at hp44
      obtain ⟨em, hem, w1⟩ := com 33 p44 hp44
      refine ⟨em, 33, hem, ?_, fun _ => rfl, fun y => absurd (z.symm.trans y) (by decide)⟩
      have q66 : q.a 66 (T + 1) = S.o c1.2.1 3 := by
        rw [((FRB.of a2 : FRB (T + 2) V0 q) (T + 1) (by omega)).2.2.1, fT1.2.2.1]
        exact y301.2
      rw [← Option.some.inj h2, w1, q66]
    · obtain ⟨y65, yfb, y71, y68⟩ := zs215 z
      have V65 : V.a 65 T = 3 := by rw [Va]; exact (qf 65 (by decide) (by decide)).trans y65
      have V68 : V.a 68 T = S.o c1.2.1 6 := by rw [Va]; exact (qf 68 (by decide) (by decide)).trans y68
      have h2 : f_X12_trying_464 N (RS.setA V 68 T e') (V.i 63) = some V2 := by
        rw [V65, if_neg (by decide), if_neg (by decide), if_neg (by decide), if_pos rfl, V75, V68] at hV2
        rcases hcase with ⟨w1, w2⟩ | ⟨w1, w2⟩
        · rw [w2]
          rcases h36 with w | w
          · rw [if_pos w, if_neg (by rw [w1]; decide)] at hV2
            rw [w]
            exact hV2
          · rw [if_neg (by rw [w]; decide)] at hV2
            rw [w]
            exact hV2
        · rw [w2]
          rcases h36 with w | w
          · rw [if_pos w, if_pos w1] at hV2
            exact hV2
          · rw [if_neg (by rw [w]; decide)] at hV2
            exact hV2
      unfold f_X12_trying_464 at h2
      obtain ⟨-, h2⟩ := hf_ite h2
      rw [tp_nat tVV] at h2
      obtain ⟨p72, hp72, h2⟩ := hf_bind h2
      have e66 : (RS.setA V 68 T e').a 66 T = s.a 66 T := by rw [setA_nk (by decide)]; exact V66
      rw [e66] at hp72
      obtain ⟨em, hem, w1⟩ := com 34 p72 hp72
      refine ⟨em, 34, hem, ?_, fun y => absurd (z.symm.trans y) (by decide), fun _ => rfl⟩
      have p71 : p72.2.a 71 T = S.o c1.2.1 3 := by
        rw [w1]
        show em.2.a 71 T = _
        obtain ⟨-, -, x3, -⟩ := y_emit (setA_env (k := 68) (j := T) (v := e') (Or.inr ⟨by decide, by decide⟩) evD) (t := T + 1) tq ph1 hem
        rw [(x3 (T + 1)).all 71 (by decide) (by decide), setA_nk (by decide), qf 71 (by decide) (by decide)]
        exact y71
      rw [← Option.some.inj h2, p71, w1, rsI_comm (r := RS.setI (RS.setI em.2 19 (q.i 19 - 1)) 38 (q.a 66 (T + 1))) (j := 63) (k := 38) (by decide), rsI_ov]
  obtain ⟨em, op, hem, V2e, op213, op215⟩ := ref
  have V2d := V2e
  clear hV2
  -- the class's row, its new sort
  have cn : cnI D = (c1.1 : Int) + 1 := by
    show (D.i 53).toInt = _
    rw [z15, j53]
    exact tp.1
  have cstD : D.r 51 c1.1 = some c1.2.1 := by rw [rD]; exact cst.1
  have D0 : D.o c1.2.1 0 = S.o c1.2.1 0 := by rw [oD]
  obtain ⟨W, hW⟩ : ∃ W, W = CS.setO (CS.setO D c1.2.1 6 e') c1.2.1 0 305 := ⟨_, rfl⟩
  have Wi : W.i = D.i := by rw [hW]; rfl
  have Wa : W.a = D.a := by rw [hW]; rfl
  have Wr : W.r = D.r ∧ W.ol = D.ol ∧ W.b = D.b ∧ W.l = D.l ∧ (W.hs = D.hs ∧ W.L = D.L ∧ W.k = D.k) := by
    rw [hW]
    exact ⟨rfl, rfl, rfl, rfl, rfl, rfl, rfl⟩
  have Wo : ∀ a : Nat, a ≠ c1.2.1 → W.o a = D.o a := fun a ha => by rw [hW, so_ne ha, so_ne ha]
  have Wk : ∀ k : Nat, k ≠ 0 → k ≠ 6 → W.o c1.2.1 k = D.o c1.2.1 k := fun k h0 h1 => by rw [hW, so_nk h0, so_nk h1]
  have W0 : W.o c1.2.1 0 = 305 := by rw [hW, so_at]
  have W6 : W.o c1.2.1 6 = e' := by rw [hW, so_nk (by decide), so_at]
  have sgS : SGS D (c1.1 + 1) = SGS D c1.1 + 1 := by
    have e2 : SGS D (c1.1 + 1) = SGS D c1.1 + sgn D (rowA D c1.1) := rfl
    have ra : rowA D c1.1 = c1.2.1 := by
      unfold rowA
      rw [cstD]
      rfl
    have s1 : sgn D c1.2.1 = 1 := by
      unfold sgn
      rw [D0]
      rcases hs with z | z <;> rw [z] <;> rfl
    rw [e2, ra, s1]
  have tnD : (cnI D).toNat = c1.1 + 1 := by omega
  have sgD := evD.ri.2.2.2.2.2.2
  rw [tnD, sgS] at sgD
  have n400 := cst.2.1
  have sgW : sgn W c1.2.1 = 0 := by
    unfold sgn
    rw [W0]
    rfl
  have rwW : RWI W := by
    refine evD.ri.srt (n := c1.1) (a := c1.2.1) n400 cn cstD Wr.1 Wo Wr.2.1 (by rw [Wi]) Wr.2.2.2.2 ?_ ⟨by rw [W0]; decide, by rw [W0]; decide, by rw [W0]; decide, by rw [W0]; decide⟩ ?_ ?_
    · rw [D0]
      rcases hs with z | z <;> rw [z] <;> exact ⟨by decide, by decide, by decide, by decide⟩
    · have s2 : sgI W = sgI D := by
        unfold sgI
        rw [Wi]
      rw [s2, sgW]
      omega
    · unfold eI plI
      rw [Wi]
      exact Int.le_refl _
  have evW : ENV d W q := evD.gx (fun _ _ _ _ _ _ _ _ => by rw [Wi]) ⟨by rw [Wa], by rw [Wa], by rw [Wa]⟩ Wr.2.2.1 Wr.2.2.2.1 rwW (by
    have z := evD.sj
    unfold SJB at *
    rw [Wi]
    exact z) (by rw [Wi]; exact evD.t21)
  have ev1 : ENV d W (RS.setA q 68 T e') := setA_env (Or.inr ⟨by decide, by decide⟩) evW
  obtain ⟨x1, x2, x3, x4, x5, x6, x7, x8, x9, x10, x11⟩ := y_emit ev1 (t := T + 1) tq ph1 hem
  have qjm := (qj2_eq (em_env ev1 ph1 hem).2.2.1).1
  have m19 : em.2.i 19 = q.i 19 := x10
  have o34 := evA.2.2.1
  have D34 : D.i 34 = A.2.i 34 := z9
  have s19 : (q.i 19 - 1).toInt = (q.i 19).toInt - 1 := by
    have e1 : (1 : Int32).toInt = 1 := by decide
    have sg0 := (BAS (s := D) c1.1).2.2.2.1
    have s34 : sgI D = (q.i 19).toInt := by
      unfold sgI
      rw [D34, o34.1]
    rw [toInt_sub] <;> rw [e1] <;> omega
  have ev2 : ENV d (CS.setI W 34 (A.2.i 34 - 1)) (RS.setI em.2 19 (q.i 19 - 1)) := by
    refine x1.sg (by rw [o34.1]) ?_ ?_ ?_
    · have sg0 := (BAS (s := D) c1.1).2.2.2.1
      have s34 : sgI D = (q.i 19).toInt := by
        unfold sgI
        rw [D34, o34.1]
      omega
    · have := o34.2.2
      omega
    · have cW : (cnI W).toNat = c1.1 + 1 := by
        have : cnI W = cnI D := by
          unfold cnI
          rw [Wi]
        omega
      have rs : RSQ D W c1.1 := fun i hi => ⟨by rw [Wr.1], fun a ha => ⟨Wo a (fun z => by
        rw [z] at ha
        have := evD.ri.2.1 i c1.1 c1.2.1 (by omega) n400 ha cstD
        omega), by rw [Wr.2.1]⟩⟩
      have nr := evD.ri.2.2.2.1.2
      rw [tnD] at nr
      have p := (rs.put (fun i hi => nr i (by omega)) (by rw [Wr.1]; exact cstD)).2.1
      rw [cW, p, sgW, o34.1, s19]
      have s34 : sgI D = (q.i 19).toInt := by
        unfold sgI
        rw [D34, o34.1]
      omega
  have ob := hC.2.2.2.2.2.2.2.1.2
  have lo := BAZ.lo _ bz
  have obc := ob.1 c1 List.mem_cons_self
  have q38 : q.i 38 = s.i 38 := by rw [u4, t4]
  have m38 : em.2.i 38 = s.i 38 := by
    rw [x4.1.1.2.2.2.1]
    exact q38
  have s50 := hv.2.1.1
  have ev3 : ENV d (CS.setI (CS.setI W 34 (A.2.i 34 - 1)) 50 (S.o c1.2.1 3)) (RS.setI (RS.setI em.2 19 (q.i 19 - 1)) 38 (S.o c1.2.1 3)) := ev2.less ⟨by omega, by
    show _ ≤ (em.2.i 38).toInt
    rw [m38, ← s50]
    exact obc.2⟩
  have ev4 : ENV d (CS.setI (CS.setI W 34 (A.2.i 34 - 1)) 50 (S.o c1.2.1 3)) V2 := by
    rw [V2e]
    exact setA_env (Or.inr ⟨by decide, by decide⟩) ev3.s63
  -- X: the class, with the new sort
  obtain ⟨X, hX⟩ : ∃ X, X = CS.setI (CS.setI W 34 (A.2.i 34 - 1)) 50 (S.o c1.2.1 3) := ⟨_, rfl⟩
  have Xe : CS.setO (CS.setO q7.2 c1.2.1 6 e') c1.2.1 0 305 = X := by
    rw [q7e, hX, hW, w3]
    rfl
  rw [← hX] at ev4
  have Xi : ∀ k : Nat, k ≠ 34 → k ≠ 50 → X.i k = D.i k := fun k h1 h2 => by
    rw [hX, ci_ne _ _ _ h2, ci_ne _ _ _ h1, Wi]
  have X50 : X.i 50 = S.o c1.2.1 3 := by rw [hX, ci_at]
  have Xo : X.o = W.o := by rw [hX]; rfl
  have Xr : X.r = W.r ∧ X.ol = W.ol ∧ X.a = W.a := by rw [hX]; exact ⟨rfl, rfl, rfl⟩
  have Xd : X = CS.setI (CS.setI (CS.setO (CS.setO D c1.2.1 6 e') c1.2.1 0 305) 34 (A.2.i 34 - 1)) 50 (S.o c1.2.1 3) := by rw [hX, hW]
  clear hX hW
  have vi : ∀ k : Nat, k ≠ 19 → k ≠ 38 → k ≠ 63 → V2.i k = em.2.i k := fun k h1 h2 h3 => by
    rw [V2e]
    exact (if_neg h3).trans ((if_neg h2).trans (if_neg h1))
  have va : ∀ k j : Nat, ¬ (k = 65 ∧ j = T) → V2.a k j = em.2.a k j := fun k j h => by
    rw [V2e]
    exact setA_lo (by omega)
  have v65 : V2.a 65 T = 2 := by rw [V2e]; exact setA_at
  have v63 : tpI V2 = (T : Int) := by
    rw [V2e]
    exact t63
  have v38 : V2.i 38 = S.o c1.2.1 3 := by rw [V2e]; rfl
  have v19 : V2.i 19 = q.i 19 - 1 := by rw [V2e]; rfl
  have vb : V2.b = em.2.b := by rw [V2e]; rfl
  clear V2e
  have mz : TBZ q em.2 := (setA_tb0 (Or.inr ⟨by decide, by decide⟩)).tr x4.1
  have sz : TBZ s em.2 := (n4.1.tr tk.1).tr mz
  obtain ⟨y1, y2, y3, y4, y5, y6, y7, y8, y9, y10⟩ := sz.1
  have trv : TBR em.2 V2 := by
    unfold TBR
    rw [vi 59 (by decide) (by decide) (by decide), vi 29 (by decide) (by decide) (by decide), vi 33 (by decide) (by decide) (by decide), vi 24 (by decide) (by decide) (by decide), vb]
    refine ⟨fun j _ => ⟨rfl, va 40 j (by omega), va 41 j (by omega)⟩, fun j _ => ⟨va 44 j (by omega), rfl, va 46 j (by omega), va 47 j (by omega), va 50 j (by omega), va 51 j (by omega), va 48 j (by omega), va 49 j (by omega)⟩, fun j _ => ⟨va 57 j (by omega), va 58 j (by omega)⟩, ⟨Int.le_refl _, fun j k1 k2 => by omega⟩, fun j _ => ⟨va 60 j (by omega), va 61 j (by omega), va 62 j (by omega)⟩, Int.le_refl _, fun j _ => va 30 j (by omega), Int.le_refl _, fun j _ => ⟨va 34 j (by omega), va 37 j (by omega)⟩, Int.le_refl _, fun j _ => ⟨va 25 j (by omega), va 27 j (by omega), va 28 j (by omega)⟩⟩
  have trs : TBR s V2 := sz.r.tr trv (by rw [y4]; exact Int.le_refl _) (by rw [y5]; exact Int.le_refl _) (by rw [y7]; exact Int.le_refl _)
  have frm : FRB T s em.2 := ((fr0.tr (FRB.of a2)).tr (setA_frb (Or.inr ⟨by decide, by decide, Nat.le_refl _⟩))).tr (x3 T)
  have frsV : FRB T s V2 := frm.tr (fun j hj => ⟨va 64 j (by omega), va 65 j (by omega), va 66 j (by omega), va 67 j (by omega), va 68 j (by omega), va 69 j (by omega), va 70 j (by omega), va 71 j (by omega), va 72 j (by omega), va 73 j (by omega), by rw [vb]⟩)
  have cds : CDK (s.i 20).toInt s V2 := by
    have z := n4.2
    refine ⟨?_, fun j hj => ?_⟩
    · rw [vi 20 (by decide) (by decide) (by decide)]
      have z7 : (em.2.i 20).toInt = (q.i 20).toInt + 1 := x7
      rw [a6] at z7
      have := z.1
      omega
    · rw [va 22 j (by omega)]
      have z4 : em.2.a 22 j = (RS.setA q 68 T e').a 22 j := x4.2.2 j (by
        show (j : Int) < (q.i 20).toInt
        rw [a6]
        have := z.1
        omega)
      rw [z4, setA_nk (by decide), a7]
      exact z.2 j hj
  -- the frame
  have mf : ∀ k : Nat, 64 ≤ k → k ≤ 73 → k ≠ 65 → k ≠ 68 → V2.a k T = s.a k T := fun k h1 h2 h3 h4 => by
    rw [va k T (by omega), (x3 (T + 1)).all k h1 h2, setA_nk h4]
    exact qf k h1 h2
  have v68 : V2.a 68 T = e' := by
    rw [va 68 T (by omega), (x3 (T + 1)).all 68 (by decide) (by decide)]
    exact setA_at
  have v11 : V2.i 11 = q.i 11 := by rw [vi 11 (by decide) (by decide) (by decide)]; exact x8
  have v17 : V2.i 17 = q.i 17 := by rw [vi 17 (by decide) (by decide) (by decide)]; exact x9
  have phv : phI V2 = phI q - 1 := by
    have x5' : phI em.2 = phI q - 1 := x5
    rw [← x5']
    unfold phI
    rw [vi 17 (by decide) (by decide) (by decide), vi 20 (by decide) (by decide) (by decide)]
  have v43 : V2.i 43 = s.i 43 := by rw [vi 43 (by decide) (by decide) (by decide)]; exact y5
  have v56 : V2.i 56 = s.i 56 := by rw [vi 56 (by decide) (by decide) (by decide)]; exact y7
  have Xo1 : ∀ a : Nat, a ≠ c1.2.1 → X.o a = S.o a ∧ X.ol a = S.ol a := fun a ha => ⟨by rw [Xo, Wo a ha, oD], by rw [Xr.2.1, Wr.2.1, z3, eolA]⟩
  have Xk : ∀ k : Nat, k ≠ 0 → k ≠ 6 → X.o c1.2.1 k = S.o c1.2.1 k := fun k h0 h6 => by rw [Xo, Wk k h0 h6, oD]
  have X0 : X.o c1.2.1 0 = 305 := by rw [Xo]; exact W0
  have tyX : isTy (X.o c1.2.1 0) := by rw [X0]; exact Or.inr (Or.inr (Or.inl rfl))
  have XrS : X.r = S.r := by rw [Xr.1, Wr.1]; exact rD
  have adr := hC.adr
  have tbb := hC.2.2.2.2.2.1.2.1
  have nn := hC.2.2.2.2.2.2.2.2.1
  have rr := hC.2.2.2.2.2.2.1
  have pdm : PDM S (c1 :: c :: L) = dbt (S.o c1.2.1 0) + PDM S (c :: L) := rfl
  have d0 : dbt (S.o c1.2.1 0) = 0 := by
    rcases hs with z | z <;> rw [z] <;> rfl
  have X53 : X.i 53 = S.i 53 := by rw [Xi 53 (by decide) (by decide), z15, j53]
  have i22 : X.i 22 = S.i 22 := by rw [Xi 22 (by decide) (by decide), z8, a8]
  have k11 := hv.1.2.2.2.1.1
  have k11' := evA.1.2.2.2.1.1
  have rt : RTE S X := by
    unfold RTE
    rw [Xi 21 (by decide) (by decide), z7, j21, Xi 54 (by decide) (by decide), z16, j54, Xi 55 (by decide) (by decide), z17, j55, Xi 44 (by decide) (by decide), z13, k11, k11']
    omega
  have hcol : ∃ col : Nat → Option (Nat × Bool), COL X V2 (c1 :: c :: L) col (b.i 20).toInt := by
    obtain ⟨-, -, b0, col, hc⟩ := id hC.2.2.2.2.2.2.2.2.2.2
    refine ⟨_, hc.chT b0 hC.injG (fun y hy => (Xo1 y.2.1 (adr y hy)).1) (fun y hy => ?_) (by rw [← hTc]; exact frsV) trs cds tyX⟩
    obtain ⟨w1, w2, w3, w4, w5⟩ := hC.inlB tp y hy
    rw [X53, XrS, (Xo1 y.2.1 (adr y hy)).1]
    exact ⟨w1, w2, w3, w4, w5⟩
  have wg : s.a 57 (ceW c1) = s.a 66 T ∧ (s.a 58 (ceW c1)).toInt = (ceG c1 : Int) := zwl wl
  have wlt : (ceW c1 : Int) < (s.i 56).toInt := by
    have := tp.2.2
    have := nWl1 wl
    omega
  have w57 := trs.2.2.1 (ceW c1) wlt
  have rfr : RFR X V2 c1.2.1 (ceT c1) (ceG c1) (ceW c1) := by
    rw [← hTc]
    refine RFR.mTy tyX ⟨⟨(mf 64 (by decide) (by decide) (by decide) (by decide)).trans z64, ?_, ?_, fun _ => ?_⟩, ?_⟩
    · rw [mf 66 (by decide) (by decide) (by decide) (by decide)]
      have := trs.2.2.2.2.2.1
      exact ⟨zid.1, by omega⟩
    · rw [mf 67 (by decide) (by decide) (by decide) (by decide), mf 72 (by decide) (by decide) (by decide) (by decide), Xk 8 (by decide) (by decide)]
      exact zwh
    · rw [w57.1, w57.2, mf 66 (by decide) (by decide) (by decide) (by decide)]
      exact wg
    · rw [X0]
      exact ⟨fun z => absurd z (by decide), fun z => absurd z (by decide), fun _ => ⟨v65, by rw [v68, Xo, W6]⟩, fun z => absurd z (by decide), by rw [Xo, W6]; exact he'⟩
  have v19s : (V2.i 19).toInt + (nSg (S.o c1.2.1 0) : Int) = (s.i 19).toInt + (nSg (X.o c1.2.1 0) : Int) := by
    have z1 : nSg (S.o c1.2.1 0) = 1 := by rcases hs with z | z <;> rw [z] <;> rfl
    have z2 : nSg (X.o c1.2.1 0) = 0 := by rw [X0]; rfl
    rw [z1, z2, v19, s19, a10, n10'.1]
    omega
  have fin : COR d B b t0 (c1 :: c :: L) (-9) X V2 := hC.chg tp hT (hC.b53 tp bz) ev4 (by rw [← hTc]; exact frsV) trs cds ⟨by rw [vi 2 (by decide) (by decide) (by decide)]; exact y1, by rw [vi 3 (by decide) (by decide) (by decide)]; exact y2, by rw [vi 8 (by decide) (by decide) (by decide)]; exact y3, by rw [← y8]; funext j; exact va 1 j (by omega), by rw [← y9]; funext j; exact va 4 j (by omega), by rw [vb]; exact y10⟩ (by rw [v38]; exact obc.1) v43 (by rw [v56]; exact tbb.2.2.1) (by
      rw [v38, v11]
      have := obc.2
      rw [s50] at this
      omega)
    XrS Xo1 ⟨Xk 1 (by decide) (by decide), Xk 3 (by decide) (by decide), Xk 14 (by decide) (by decide)⟩ ⟨i22, by rw [Xi 38 (by decide) (by decide), z11, j38], X53, by rw [Xi 54 (by decide) (by decide), z16, j54], by rw [Xi 55 (by decide) (by decide), z17, j55], by rw [Xi 56 (by decide) (by decide), z18, j56]⟩ ⟨by rw [Xr.2.2, Wa, z5, a9.1], by rw [Xr.2.2, Wa, z6, a52]⟩ (fun y hy => by
      rw [X50]
      rcases List.mem_cons.mp hy with z | hy2
      · rw [z]
        exact Int.le_refl _
      · exact ob.2.1 y hy c1 List.mem_cons_self (STK.ord (c :: L) c1 _ _ _ hC.2.1 y hy2))
    ngo (by rw [X0]; unfold isGo; decide) ⟨fun _ => ty, fun _ => tyX⟩ (by rw [X0]; rcases hs with z | z <;> rw [z] <;> rfl) (by rw [X0]; rfl) (fun z => by rcases hs with w | w <;> rw [w] at z <;> exact absurd z (by decide)) (fun z => absurd z (by rw [X0]; decide)) (fun _ => ⟨Xk 12 (by decide) (by decide), by rw [← hTc]; exact mf 66 (by decide) (by decide) (by decide) (by decide), by rw [← hTc]; exact mf 72 (by decide) (by decide) (by decide) (by decide)⟩) rfr hcol rt ⟨by rw [v11]; omega, by omega, by rw [v17]; omega, v19s⟩ (by rw [X0]; unfold isKS isOne isTy; decide)
  refine ⟨CS.setO q7.2 c1.2.1 6 e', m3, V2, eY, g3, by rw [Xe]; exact fin, ?_, by rw [← hTc]; exact v63, ?_, ?_, ?_, ?_⟩
  · rw [Xe]
    refine ⟨by rw [X53]; exact tp.1, ?_, ?_⟩
    · have z := tp.2.1
      rw [nGo.eq ngo] at z
      rw [v43, X0]
      exact z
    · have z := tp.2.2
      rw [nWl1 wl] at z
      rw [v56, X0]
      exact z
  · show q7.2.i 50 = (CS.setO q7.2 c1.2.1 6 e').o c1.2.1 3
    rw [so_nk (by decide), q7e, ci_at]
    show A.2.o c1.2.1 3 = D.o c1.2.1 3
    rw [w3, oD]
  · show q7.2.i 36 = 0 ∨ q7.2.i 36 = 1
    rw [q736]
    exact h36
  · rw [v38, v11]
    have := obc.2
    rw [s50] at this
    omega
  -- the code
  rw [Xe]
  intro jw crB
  have veq : vws X V2 (c :: L) = vws S s (c :: L) := vws.eqf (T := ceT c1) (fun j hj => (trs.1 j hj).2.1) (c :: L) (fun y hy => hC.o3 y (List.mem_cons_of_mem _ hy)) (fun y hy => (Xo1 y.2.1 (adr y hy)).1) (fun k t h1 h2 h3 => frsV.fld k t h1 h2 (by rw [hTc]; exact h3)) (fun y hy => by
    have z1 := (hC.inlB tp y hy).2.2.1
    have z2 := wid1 (S.o y.2.1 0)
    omega)
  rw [veq]
  obtain ⟨E, hE⟩ : ∃ E, E = s.i 52 - 1 := ⟨_, rfl⟩
  obtain ⟨w, hw⟩ : ∃ w, w = q.i 19 - 1 := ⟨_, rfl⟩
  obtain ⟨v, hvd⟩ : ∃ v, v = S.i 38 - 1 := ⟨_, rfl⟩
  obtain ⟨o3, ho3⟩ : ∃ o3, o3 = S.o c1.2.1 3 := ⟨_, rfl⟩
  obtain ⟨ee, he1, he2⟩ := clo_e (S.i 43)
  have ee1 : ee ≤ 1 := by rcases he1 with z | ⟨z, -⟩ <;> omega
  have h44 : (S.i 44).toInt ≤ 900 := by
    rw [hv.p44.1]
    exact (i11_hi hv).2
  have h44A : (A.2.i 44).toInt ≤ 900 := by
    rw [evA.p44.1]
    exact (i11_hi evA).2
  have e1 : (1 : Int32).toInt = 1 := by decide
  have v38i : v.toInt = (S.i 38).toInt - 1 := by
    have s38 := hC.2.2.2.2.2.2.2.1.1
    have ed : DSM S (c1 :: c :: L) = (nDp (S.o c1.2.1 0) : Int) + DSM S (c :: L) := rfl
    have dp : nDp (S.o c1.2.1 0) = 1 := by rcases hs with z | z <;> rw [z] <;> rfl
    have ds := (PDM.ge S (c :: L)).2
    obtain ⟨b38, -⟩ := BAZ.b38 _ bz
    have hi := Int32.toInt_lt (S.i 38)
    rw [hvd, toInt_sub] <;> rw [e1] <;> omega
  have w19 : (b.i 19).toInt + (sfr (vws S s (c :: L)) : Int) ≤ w.toInt := by
    have z1 := hC.2.2.2.2.2.2.1.2.2.2
    have z2 : SSM S (c1 :: c :: L) = (nSg (S.o c1.2.1 0) : Int) + SSM S (c :: L) := rfl
    have z3 : nSg (S.o c1.2.1 0) = 1 := by rcases hs with z | z <;> rw [z] <;> rfl
    have z4 := sfr_ss (S := S) (s := s) (c :: L)
    rw [hw, s19, a10, n10'.1]
    omega
  have hr0 : (vw S s c1).v = S.o c1.2.1 0 := rfl
  have f66 : (vw X V2 c1).2.1 66 = (vw S s c1).2.1 66 := by
    rw [vw_at (k := 66) ⟨by decide, by decide⟩, vw_at (k := 66) ⟨by decide, by decide⟩, ← hTc]
    exact mf 66 (by decide) (by decide) (by decide) (by decide)
  have f72 : (vw X V2 c1).2.1 72 = (vw S s c1).2.1 72 := by
    rw [vw_at (k := 72) ⟨by decide, by decide⟩, vw_at (k := 72) ⟨by decide, by decide⟩, ← hTc]
    exact mf 72 (by decide) (by decide) (by decide) (by decide)
  have etl : rtgs (vw S s c1) = [S.o c1.2.1 10] ++ rtgs (vw X V2 c1) := by
    have l1 : rtgs (vw S s c1) = [S.o c1.2.1 10, S.o c1.2.1 11, S.o c1.2.1 9] := by
      unfold rtgs
      rw [hr0]
      rcases hs with z | z <;> rw [z, if_neg (by decide), if_neg (by decide), if_neg (by decide), if_pos (by decide)] <;> rfl
    have l2 : rtgs (vw X V2 c1) = [X.o c1.2.1 11, X.o c1.2.1 9] := by
      unfold rtgs
      rw [show (vw X V2 c1).v = 305 from X0, if_neg (by decide), if_neg (by decide), if_neg (by decide), if_neg (by decide), if_pos rfl]
      rfl
    rw [l1, l2, Xk 11 (by decide) (by decide), Xk 9 (by decide) (by decide)]
    rfl
  have obo : (S.o c1.2.1 3).toInt ≤ (s.i 38).toInt := hC.o3 c1 List.mem_cons_self
  have r0 : ¬ (vw S s c1).2.2.1 = 0 := by
    have z := vws.pl hC (vw S s c) List.mem_cons_self
    show ¬ c1.1 = 0
    omega
  obtain ⟨g, ⟨g15, -, g31, g30⟩, j0⟩ := JRW.cly (V := vws S s (c :: L)) (r := vw S s c1) (r' := vw X V2 c1) (u' := RS.setI (RS.setI (RS.setI s 52 E) 19 w) 38 o3) (S' := CS.setI S 38 v) (tl := [S.o c1.2.1 10]) (e := ee) (dr := 1) crB jw (fun z => z.cl rfl rfl (show E = s.i 52 - d32 (vw S s c1).v by rw [d32.yes (v := (vw S s c1).v) (hs.elim (fun y => Or.inr (Or.inl y)) (fun y => Or.inr (Or.inr (Or.inl y)))), hE]) (show o3.toInt ≤ (s.i 38).toInt by rw [ho3]; exact obo)) r0 (hs.elim Or.inl (fun z => Or.inr (Or.inl z))) (Or.inl ⟨fun z => by rcases hs with y | y <;> exact absurd (y.symm.trans z) (by decide), X0⟩) ⟨rfl, f66, f72, Xk 2 (by decide) (by decide), Xk 9 (by decide) (by decide), Xk 11 (by decide) (by decide)⟩ etl ⟨⟨rfl, rfl, rfl, rfl, rfl⟩, rfl, rfl, rfl, rfl⟩ ⟨⟨rfl, rfl, rfl, rfl, rfl⟩, rfl, rfl, rfl, rfl, rfl, rfl, rfl, rfl, rfl, rfl, rfl, rfl, rfl, rfl⟩ ⟨Or.inr w19, rfl, rfl, rfl⟩ (fun _ _ _ => rfl) (fun nm G ω j nb ng hcx => by
    obtain ⟨e, he, ek, ew⟩ : ∃ e : Ent, jen G ω (vw S s c1) j.h j.l = [e] ∧ e.k ≤ 3 ∧ (e.k = 2 → S.o c1.2.1 0 = 215 ∧ e.w = (G c1.1).2.1) := by
      unfold jen
      rw [hr0]
      rcases hs with z | z
      · rw [z, if_neg (by decide), if_pos rfl]
        exact ⟨_, rfl, show (1 : Nat) ≤ 3 by decide, fun y => absurd (show (1 : Nat) = 2 from y) (by decide)⟩
      · rw [z, if_neg (by decide), if_neg (by decide), if_pos rfl]
        exact ⟨_, rfl, show (2 : Nat) ≤ 3 by decide, fun _ => ⟨rfl, rfl⟩⟩
    rw [he] at ng hcx
    refine ⟨NMH.pop2 ng (by show o3.toInt ≤ _; rw [ho3]; exact obo) (fun y k hk => ?_) rfl rfl rfl ?_ ?_ rfl rfl rfl, hcx.tl⟩
    · obtain ⟨w1, w2⟩ := ew y
      have hk' : (k : Int) < (S.o c1.2.1 3).toInt := by
        rw [← ho3]
        exact hk
      have z := nb w1 k hk'
      rw [vw_s hk'] at z
      rw [w2]
      exact z
    · show (S.i 38).toInt = v.toInt + _
      rw [if_pos ek]
      omega
    · show (s.i 52).toInt = E.toInt + 1
      have n3 : (((j.c.length + 1 : Nat)) : Int) = (s.i 52).toInt := ng.2.2.1
      have hi := Int32.toInt_lt (s.i 52)
      have z : (s.i 52 - 1).toInt = (s.i 52).toInt - 1 := by
        rw [toInt_sub] <;> rw [e1] <;> omega
      rw [hE]
      omega) ⟨Int.le_refl _, fun z => by rcases hs with y | y <;> exact absurd (y.symm.trans z) (by decide)⟩ he1
  -- the token
  obtain ⟨-, -, -, -, -, -, -, -, -, -, -, -, -, oi50, -, -, -, -, -, -, oa48, oa49, -, -, -, -, -, oi21, -⟩ := pj_eq a3
  have l44 : (S.i 44).toInt + 1 ≤ (A.2.i 44).toInt := by
    rw [hv.p44.1, evA.p44.1]
    omega
  have wi := n10'.2.2.1
  have waa := n10'.2.2.2.1
  have qV0 : qe V0 = qe s := by
    unfold qe
    rw [wi 20 (by decide) (by decide), wi 24 (by decide) (by decide), wi 29 (by decide) (by decide), wi 33 (by decide) (by decide), wi 42 (by decide) (by decide), wi 52 (by decide) (by decide), waa 21 (by decide), waa 22 (by decide), waa 23 (by decide), waa 25 (by decide), waa 26 (by decide), waa 27 (by decide), waa 28 (by decide), waa 30 (by decide), waa 31 (by decide), waa 32 (by decide), waa 34 (by decide), waa 35 (by decide), waa 36 (by decide), waa 37 (by decide)]
  have qqe := kre_f_X12_next N V0 q hq
  have nvs : NMV s q := NMV.tr ⟨wi 38 (by decide) (by decide), fun j _ => by rw [waa 40 (by decide)]⟩ (NMV.tbk tk)
  have j1 := j0.cek (R := CS.setI A.2 38 v) 1 (pe.s38 (ke_X9_advance N S A eA)) oi21 oa48 oa49 oi50 l44
  have hqs : qe (RS.setI q 52 E) = qe (RS.setI s 52 E) := qe.s52 (v := E) (qqe.trans qV0)
  have hqs' : qe (RS.setI (RS.setI (RS.setA q 68 T e') 52 E) 38 o3) = qe (RS.setI (RS.setI (RS.setI s 52 E) 19 w) 38 o3) := by
    have z1 : qe (RS.setI (RS.setI (RS.setA q 68 T e') 52 E) 38 o3) = qe (RS.setI q 52 E) := by
      unfold qe
      show (_, _) = (_, _)
      rfl
    exact z1.trans hqs
  have j2 := j1.se (u := RS.setI (RS.setI (RS.setA q 68 T e') 52 E) 38 o3) hqs' ⟨rfl, fun j hj => by
    show (RS.setA q 68 T e').a 40 j = s.a 40 j
    rw [setA_nk (by decide)]
    refine nvs.2 j ?_
    have z : (j : Int) < o3.toInt := hj
    rw [ho3] at z
    omega⟩
  have prq : pcR q = pcR s := (pcR.qe qqe).trans (pcR.qe qV0)
  have pcA : pcC A.2 = pcC S := pcC.pe (ke_X9_advance N S A eA)
  -- the instruction
  obtain ⟨o, xa, pa, hadd, hpa, how⟩ := lv_add el2'
  have p20q := evA.p20
  have A9 : A.2.o c1.2.1 9 = S.o c1.2.1 9 := by rw [eo1]
  have A2 : A.2.o c1.2.1 2 = S.o c1.2.1 2 := by rw [eo1]
  have j3 := j2.one (K' := fun FC SF nm X0 ω j Z => ((PQX SF U (pcC S) (pcR s) ∧ (SF.a 15 (pcC S) = o ∧ SF.a 16 (pcC S) = xa) ∧ U.a 21 (pcR s) = op ∧ (frs j.c : Int) = v.toInt) ∧ pcC (CS.setI pa.2 38 v) = pcC S + 1) ∧ KTY U (vw S s c1) g S s FC SF nm X0 ω j Z) (add_sh (D := v) hadd) h44A (by omega) (em_s38 (E := o3) (em_sh (E := E) hem)) ⟨p20q.1, by show (q.i 20).toInt < 3000; omega⟩ (fun FC SF nm X0 ω j Z pq a1 a2 b1 b2 b3 v1 v2 nmh hc hh tyc tl hω k => by
    have e1 : pcC (CS.setI A.2 38 v) = pcC S := pcA
    have e2 : pcR (RS.setI (RS.setI (RS.setA q 68 T e') 52 E) 38 o3) = pcR s := prq
    rw [e1, e2] at pq
    rw [e1] at a1 a2 v1
    rw [e2] at b1
    exact ⟨⟨⟨pq, ⟨a1, a2⟩, b1, nmh.1.2.1⟩, v1⟩, k⟩)
  have lo' : l2.2.o = A.2.o := by
    rw [← hpa]
    unfold f_X0_add at hadd
    cases hadd
    rfl
  have l944 : (CS.setI pa.2 38 v).i 44 = A.2.i 44 := by
    unfold f_X0_add at hadd
    cases hadd
    rfl
  rw [lo', show A.2.o c1.2.1 10 = S.o c1.2.1 10 by rw [eo1], ← hpa] at er2'
  have j4 := JRG.aim (W1 := []) (W2 := [vw X V2 c1]) (K' := fun FC SF nm X0 ω j Z => (cTg SF (S.o c1.2.1 10)).toInt = ((pcC (CS.setI pa.2 38 v) : Nat) : Int) ∧ ((PQX SF U (pcC S) (pcR s) ∧ (SF.a 15 (pcC S) = o ∧ SF.a 16 (pcC S) = xa) ∧ U.a 21 (pcR s) = op ∧ (frs j.c : Int) = v.toInt) ∧ pcC (CS.setI pa.2 38 v) = pcC S + 1) ∧ KTY U (vw S s c1) g S s FC SF nm X0 ω j Z) j3 (aim_sh (D := v) er2') (by rw [l944]; exact h44A) (by omega) (fun FC SF nm X0 ω j Z h k => ⟨h, k⟩)
  obtain ⟨m, hm1, hm2⟩ : ∃ m : Nat, (m = 0 ∨ 3 * (m : Int) + 3 ≤ (s.i 11).toInt) ∧ (S.o c1.2.1 0 = 215 → g.2.2.length ≤ m ∧ ∀ z ∈ g.2.2, z.2 ≤ pcC S + 1) := by
    by_cases z : S.o c1.2.1 0 = 215
    · refine ⟨g.2.2.length, (g15 z).1, fun _ => ⟨Nat.le_refl _, fun y hy => ?_⟩⟩
      have := (g15 z).2 y hy
      unfold pcC
      omega
    · exact ⟨0, Or.inl rfl, fun y => absurd y z⟩
  have pX : pcC X = pcC (CS.setI pa.2 38 v) := by
    unfold pcC
    rw [Xi 20 (by decide) (by decide), hDr]
    unfold f_X0_aim at er2'
    cases er2'
    rfl
  have A38 : A.2.i 38 = S.i 38 := j38
  have X6 : X.o c1.2.1 6 = e' := by rw [Xo, W6]
  have v30 : V2.a 30 = s.a 30 := by
    funext j
    rw [va 30 j (by omega), (show ∀ z : em.2.a 30 = (RS.setA q 68 T e').a 30, em.2.a 30 = (RS.setA q 68 T e').a 30 from fun z => z) (by obtain ⟨-, -, -, -, -, -, zA⟩ := em_52 (v := 0) hem; exact zA 30 (by omega)), setA_nk (by decide), (qe_eq (qqe.trans qV0)).2.2.2.2.2.2.2.2.1]
  have sl2 : SLO b → SLO (RS.setI (RS.setI (RS.setA q 68 T e') 52 E) 38 o3) := fun z => by
    obtain ⟨-, -, -, -, _, _, _, _, sax, -⟩ := j2 crB
    exact (sax z).1.1
  have j5 := j4.imp (K' := K5 U (vw X V2 c1) (V2.a 30 ((vw X V2 c1).2.1 66).toNatClampNeg) (pcC X) m) (a1 := -1) (e1 := 0) (by omega) (by omega) (fun FC SF nm X0 ω j Z hc hh tyc tl hω r12 k => by
    obtain ⟨ct, ⟨⟨pq, ⟨s1', s2'⟩, u1', fv⟩, pe1⟩, k0⟩ := k
    have d2 := k0.1.1
    have d2' : (S.o c1.2.1 2).toInt = (frs j.c : Int) := d2
    rw [pX, pe1]
    rcases how with ⟨ho, hx⟩ | ⟨ho, hx⟩
    · rw [ho] at s1'
      rw [A9, A2] at hx
      refine k5_of k0 hs ⟨Xk 9 (by decide) (by decide), f66, f72⟩ ⟨fun y => ?_, fun y => ?_⟩ pq s1' (s2'.trans hx) ⟨fun y => u1'.trans (op213 y), fun y => u1'.trans (op215 y)⟩ (by rw [← pe1]; exact ct) hm2 tyc tl hω (fun y z hz => by rw [v30, f66]; exact g30 (Or.inl y) z hz)
      · show X.o c1.2.1 6 = 1
        have y' : S.o c1.2.1 6 = 1 := y
        rw [X6]
        rcases hcase with ⟨z1, z2⟩ | ⟨z1, z2⟩
        · rw [y'] at z1
          exact absurd z1 (by decide)
        · exact z2
      · show X.o c1.2.1 6 = 1
        rw [X6]
        rcases hcase with ⟨z1, z2⟩ | ⟨z1, z2⟩
        · rw [z2]
          exact y
        · exact z2
    · exfalso
      rw [A2, A38] at hx
      rw [hx] at d2'
      omega)
  have x38 : X.i 38 - 1 = v := by rw [Xi 38 (by decide) (by decide), z11, j38, hvd]
  obtain ⟨-, -, -, -, -, zk, -⟩ := em_52 (v := 0) hem
  have v52 : V2.i 52 - 1 = E := by
    rw [vi 52 (by decide) (by decide) (by decide), zk 52 (by decide), hE]
    show q.i 52 - 1 = s.i 52 - 1
    rw [(qe_eq (qqe.trans qV0)).1.2.2.2.2.2]
  refine ⟨m, RS.setI (RS.setI (RS.setI s 52 E) 19 w) 38 o3, ⟨?_, fun z => ?_⟩, hm1.imp_right (fun z => ?_), ⟨⟨v43, ?_, fun k hk => ?_⟩, ?_, ?_⟩, ?_⟩
  · have z := g31 (fun z => by rcases hs with y | y <;> exact absurd (y.symm.trans z) (by decide))
    rw [f66, va 31 _ (by omega), em_31 hem, setA_nk (by decide), (qe_eq (qqe.trans qV0)).2.2.2.2.2.2.2.2.2.1]
    exact z
  · have z1 := (sl2 z).2
    have z2 : (q.i 42).toInt ≤ (q.i 20).toInt + 8 := z1
    rw [vi 42 (by decide) (by decide) (by decide), zk 42 (by decide), vi 20 (by decide) (by decide) (by decide)]
    have z3 : (em.2.i 20).toInt = (q.i 20).toInt + 1 := ((kq_emit hem).2 ⟨p20q.1, by show (q.i 20).toInt < 3000; omega⟩).2.1
    show (q.i 42).toInt + 1 ≤ _
    omega
  · rw [v11]
    omega
  · show V2.i 59 = s.i 59
    rw [vi 59 (by decide) (by decide) (by decide), zk 59 (by decide)]
    exact (qj_eq a2).2.2.2.2.2.2.2.2.2.2.2.2.2.2.2.1.trans (wi 59 (by decide) (by decide))
  · show V2.a k = s.a k
    obtain ⟨-, -, -, -, -, -, -, -, -, -, -, -, -, -, -, -, -, -, -, -, -, -, -, -, -, -, -, -, -, -, -, z47, z48, z49, z50, z51, -, -, z60, z61, z62, -⟩ := qj_eq a2
    obtain ⟨-, -, -, -, -, -, zA⟩ := em_52 (v := 0) hem
    funext j
    rw [va k j (by omega), zA k (by omega), setA_nk (by omega)]
    rcases hk with z | z | z | z | z | z | z | z <;> rw [z]
    · rw [z47, waa 47 (by decide)]
    · rw [z48, waa 48 (by decide)]
    · rw [z49, waa 49 (by decide)]
    · rw [z50, waa 50 (by decide)]
    · rw [z51, waa 51 (by decide)]
    · rw [z60, waa 60 (by decide)]
    · rw [z61, waa 61 (by decide)]
    · rw [z62, waa 62 (by decide)]
  · rw [v19, hw]
    exact Int.le_refl _
  · show (s.i 11).toInt ≤ (V2.i 11).toInt
    rw [v11]
    omega
  · rw [x38, v52]
    refine j5.drp (R := CS.setI X 38 v) (u := RS.setI V2 52 E) ?_ ?_ ?_ ?_ ?_ ?_ ?_ ?_
    · rw [Xd, hDr]
      rfl
    · rw [Xd, hDr]
      rfl
    · rw [Xd, hDr]
      rfl
    · rw [Xd, hDr]
      rfl
    · rw [Xd, hDr]
      rfl
    · rw [V2d]
      rfl
    · show (V2.i 38).toInt ≤ o3.toInt
      rw [v38, ho3]
      exact Int.le_refl _
    · rw [V2d]
      funext j
      exact setA_lo (by omega)
