/-! both readers: a finally's end -/
/-- the class: all but the records -/
def E52 (S R : CS) : Prop := (R.i = S.i ∧ R.r = S.r ∧ R.o = S.o ∧ R.ol = S.ol ∧ R.b = S.b ∧ R.l = S.l ∧ (R.hs = S.hs ∧ R.L = S.L ∧ R.k = S.k)) ∧ ∀ k : Nat, k ≠ 52 → R.a k = S.a k
theorem lj_52 {N : Nat} : ∀ (n : Nat) (S : CS) (x2 x3 : Int32) (R : Unit × CS), 0 ≤ x3.toInt → f_X6_loseJumps_2 N n S x2 x3 = some R → E52 S R.2 ∧ (∀ i : Nat, (i : Int) < 160 → (x3.toInt ≤ (i : Int) ∧ (i : Int) < x2.toInt → R.2.a 52 i = 0) ∧ (¬ (x3.toInt ≤ (i : Int) ∧ (i : Int) < x2.toInt) → R.2.a 52 i = S.a 52 i))
  | 0, _, _, _, _, _, e => by cases e
  | n + 1, S, x2, x3, R, h0, e => by
    have e' : b_X6_loseJumps_2 N (f_X6_loseJumps_2 N n) S x2 x3 = some R := e
    unfold b_X6_loseJumps_2 at e'
    by_cases c : x2 ≤ x3
    · rw [if_pos c] at e'
      have := le_int c
      rw [← Option.some.inj e']
      exact ⟨⟨⟨rfl, rfl, rfl, rfl, rfl, rfl, rfl, rfl, rfl⟩, fun _ _ => rfl⟩, fun i _ => ⟨fun z => by omega, fun _ => rfl⟩⟩
    · rw [if_neg c] at e'
      have c' : x3.toInt < x2.toInt := by
        by_cases q : x2.toInt ≤ x3.toInt
        · exact absurd (Int32.le_iff_toInt_le.mpr q) c
        · omega
      have hi := Int32.toInt_lt x2
      have x1' : (x3 + 1).toInt = x3.toInt + 1 := ad1 h0 (by omega)
      obtain ⟨⟨⟨f1, f2, f3, f4, f5, f6, f7⟩, f8⟩, f9⟩ := lj_52 n _ x2 (x3 + 1) R (by omega) e'
      refine ⟨⟨⟨f1, f2, f3, f4, f5, f6, f7⟩, fun k hk => (f8 k hk).trans (if_neg hk)⟩, fun i hi2 => ?_⟩
      obtain ⟨g1, g2⟩ := f9 i hi2
      have pa : (CS.putA S 52 (gPut (S.a 52) 160 x3 0)).a 52 i = if (i : Int) = x3.toInt then 0 else S.a 52 i := by
        show gPut (S.a 52) 160 x3 0 i = _
        unfold gPut
        by_cases w : ib x3 160
        · rw [if_pos w]
          by_cases k : (i : Int) = x3.toInt
          · rw [if_pos k]
            exact updA (by
              show i = x3.toInt.toNat
              omega)
          · rw [if_neg k]
            exact updN (fun z => k (by
              rw [z]
              show ((x3.toInt.toNat : Nat) : Int) = _
              omega))
        · rw [if_neg w]
          by_cases k : (i : Int) = x3.toInt
          · exact absurd ⟨h0, by omega⟩ w
          · rw [if_neg k]
      refine ⟨fun z => ?_, fun z => ?_⟩
      · by_cases k : (i : Int) = x3.toInt
        · rw [g2 (by omega), pa, if_pos k]
        · exact g1 (by omega)
      · rw [g2 (by omega), pa, if_neg (by omega)]
theorem RSX.s19 {x1 x2 : Int32} {n0 : Int} {s R : RS} {w : Int32} (h : RSX x1 x2 n0 s R) : RSX x1 x2 n0 (RS.setI s 19 w) (RS.setI R 19 w) := by
  obtain ⟨⟨h1, h2, h3, h4⟩, h5, h6, h7⟩ := h
  refine ⟨⟨?_, h2, h3, h4⟩, h5, h6, h7⟩
  show va_up R.i 19 w = va_up s.i 19 w
  rw [h1]
theorem pj2_34b {S : CS} {v w : Int32} (h : S.i 34 = v) : pj2 S = pj2 (CS.setI (CS.setI S 34 w) 34 v) := by
  rw [pj2_34, pj2_34, ← h]
  rfl
set_option maxHeartbeats 4000000 in
theorem en_fin {N : Nat} (hN : 1000 ≤ N) {d : Int32} {B : CS} {b : RS} {t0 n : Nat} {L : List CEL} {x : Int} {S : CS} {s U : RS} {c1 c : CEL} {R : Unit × CS} {Aj : JBA} (hC : COR d B b t0 (c1 :: c :: L) x S s) (tp : TOP S s c1) (hM : MLI c1 S s) (h36 : S.i 36 = 0 ∨ S.i 36 = 1) (h216 : S.o c1.2.1 0 = 216) (k125 : S.i 43 = 125) (bz : BAZ B b (c1 :: c :: L)) (hT : t0 ≤ ceT c1) (e : f_X7_endList N S c1.2.1 = some R) (g : f_X12_parse_10 N n s = some U) : ∃ (m : Nat) (u : RS), f_X12_parse_10 N m u = some U ∧ POPD d B b t0 c L R.2 u ∧ JTR Aj U B b (c1 :: c :: L) S s (vws R.2 u (c :: L)) R.2 u := by
  obtain ⟨no1, n305, ts, h64, hmode, -⟩ := hM
  have ty : isTy (S.o c1.2.1 0) := Or.inr (Or.inr (Or.inr h216))
  have ngo := ty_ngo ty
  have wd : wid (S.o c1.2.1 0) = 3 := by rw [h216]; rfl
  obtain ⟨T, hTc⟩ : ∃ T : Nat, T = ceT c1 := ⟨_, rfl⟩
  have ix : ceT c1 + wid (S.o c1.2.1 0) - 1 = T + 2 := by omega
  rw [ix] at h64 hmode
  have ts' : tpI s = ((T + 2 : Nat) : Int) := by rw [ts, wd]; omega
  have hv := hC.1
  have k10 := (tk_is hv (a := 125) (b := 125) (Or.inl ⟨by decide, by decide⟩) (by decide)).mp k125
  obtain ⟨m1, e1, k1, m2, e2, k2, cst⟩ := STK.mem _ _ _ _ hC.2.1 c1 List.mem_cons_self
  obtain ⟨⟨z64, zid, zwh, -⟩, -, -, -, zs216, zb⟩ := cst.2.2.1.2.2.2.2.2.2.2.2.2.2.2.2 ty
  rw [← hTc] at z64 zid zwh zs216
  obtain ⟨z65, ⟨⟨y64, y65, y641⟩, y66⟩, z68⟩ := zs216 h216
  obtain ⟨m0, V0, g0, n1, n2, n3, n4, n5, n6, n7, n8, n9, n10'⟩ := y_lend hv ts' h64 hmode h36 (Or.inl k10) g
  have fT1 := n3 (T + 1) (by omega)
  have fT0 := fun k h1 h2 => (n3.mo (by omega) : FRB (T + 1) s V0).all k h1 h2
  have tV : tpI V0 = ((T + 1 : Nat) : Int) := by rw [n2]; omega
  have fr0 : FRB T s V0 := n3.mo (by omega)
  obtain ⟨t1, t2, t3, t4, t5, t6, t7, t8, t9, t10⟩ := n4.1.1
  -- the reference's block
  obtain ⟨m2, V, hV, g2⟩ := rl_3 g0 tV n1.1.2.1 (fT1.1.trans y64)
  unfold f_X12_block at hV
  obtain ⟨hib, hV⟩ := hf_ite hV
  have tt : T + 1 < 1000 := by
    have h2 : (V0.i 63).toInt = ((T + 1 : Nat) : Int) := tV
    have := hib.2
    omega
  rw [tp_nat tV, if_neg (show ¬ V0.a 65 (T + 1) = 0 by rw [fT1.2.1, y65]; decide)] at hV
  obtain ⟨p3, hsh, hV⟩ := hf_bind hV
  -- the class
  unfold f_X7_endList at e
  obtain ⟨-, e⟩ := hf_ite e
  rw [if_neg (by rw [h216]; decide), if_neg (by rw [h216]; decide)] at e
  unfold f_X7_endList_72 at e
  obtain ⟨p4, e4, e⟩ := hf_bind e
  obtain ⟨A, q, eA, hq, evA, R4, V4, -⟩ := y_clsA hN n1 (c := 125) (d := 125) (Or.inl ⟨by decide, by decide⟩) (by decide) (by decide) (by decide) k125 e4 hsh
  obtain ⟨-, a2, a3, a4, a5, a6, a7, a8, a9, a10⟩ := n1.adv hN (by rw [k125]; decide) eA hq
  have ck := CKX.of a3 a8 a9
  have tk := TBK.of a2 (by rw [a6]; exact Int.le_refl _) (fun j _ => by rw [a7])
  rw [n8] at a5
  have q17 : (q.i 17).toInt = (s.i 17).toInt + 1 := by rw [a4, t17_up (N := N) n1, n9]
  have phq : phI q = phI V0 + 3 := by
    unfold phI
    rw [a6, q17, n9]
    omega
  obtain ⟨u1, u2, u3, u4, u5, u6, u7, u8, u9, u10⟩ := tk.1.1
  obtain ⟨-, -, -, -, -, -, -, -, -, -, j36, -, j38, j50, j53, j54, j55, j56, -, -, -, -, a52, erA, eoA, eolA, -, j21, -⟩ := pj_eq a3
  have eo1 : A.2.o c1.2.1 = S.o c1.2.1 := by rw [eoA]
  obtain ⟨-, e⟩ := hf_ite e
  have o4 : ∀ w : Int32, (CS.setI p4.2 50 w).o c1.2.1 0 = 216 := fun w => by
    show p4.2.o c1.2.1 0 = 216
    rw [R4]
    show A.2.o c1.2.1 0 = 216
    rw [eo1]
    exact h216
  rw [if_neg (by rw [o4]; decide), if_neg (by rw [o4]; decide), if_neg (by rw [o4]; decide), if_neg (by rw [o4]; decide), if_pos (o4 _)] at e
  have eg := ob_un e
  clear e
  have o3 : p4.2.o c1.2.1 3 = A.2.o c1.2.1 3 := by rw [R4]; rfl
  rw [o3, R4] at eg
  unfold f_X7_endFinally at eg
  obtain ⟨q2, eq2, eg⟩ := hf_bind eg
  obtain ⟨-, eg⟩ := hf_ite eg
  obtain ⟨q7, eq7, eg⟩ := hf_bind eg
  obtain ⟨l1, el1, hl1⟩ := cm_add (by decide) eq2
  obtain ⟨l2, el2, hl2⟩ := cm_add (by decide) el1
  rw [hl1, hl2] at eq7
  obtain ⟨r1, er1, hr1⟩ := cm_aim (by decide) eq7
  obtain ⟨r2, er2, hr2⟩ := cm_aim (by decide) er1
  have kdD : pj2 r2.2 = pj2 A.2 := (kd_X0_aim N _ _ r2 er2).trans (kd_X0_add N _ _ _ l2 el2)
  obtain ⟨D, hDD⟩ : ∃ D, D = r2.2 := ⟨_, rfl⟩
  have w3 : A.2.o c1.2.1 3 = S.o c1.2.1 3 := by rw [eo1]
  have q7e : q7.2 = CS.setI (CS.setI D 34 (A.2.i 34 - 1)) 50 (S.o c1.2.1 3) := by rw [hr1, hr2, hDD, w3]
  rw [← hDD] at kdD
  have el2' : f_X0_add N A.2 59 0 = some l2 := el2
  have er2' : f_X0_aim N l2.2 (l2.2.o c1.2.1 9) = some r2 := er2
  have hDr := hDD
  clear hDD hr1 hr2 er1 er2 hl1 hl2 el1 el2 eq7 eq2
  obtain ⟨⟨z1, z2, z3, z4⟩, ⟨z5, z6⟩, ⟨z7, z8, z9, z10, z11⟩, ⟨z12, z13, z14, z15, z16, z17, z18⟩⟩ := kd_all kdD
  have evD : ENV d D q := evA.kd kdD
  have oD : D.o = S.o := z2.trans eoA
  have rD : D.r = S.r := z1.trans erA
  have D53 : D.i 53 = S.i 53 := z15.trans j53
  have D38e : D.i 38 = S.i 38 := z11.trans j38
  have q736 : q7.2.i 36 = S.i 36 := by
    rw [q7e]
    show D.i 36 = _
    rw [z10, j36]
  have q7o : q7.2.o = S.o := by
    rw [q7e]
    show D.o = _
    exact oD
  obtain ⟨sj1, sj2, sj3, sj4, sj5, sj6⟩ := id hv.sj
  have hi11 := i11_hi hv
  obtain ⟨-, -, -, -, -, -, h7, -⟩ := id hC.2.2.1
  obtain ⟨g71, g72, g73, g74, g75⟩ := h7 c1 List.mem_cons_self
  obtain ⟨g76, g77⟩ := g75 h216
  -- the class's last state
  have fin0 : ∃ (Q : CS) (vv : Int32) (r : Unit × CS), E52 q7.2 Q ∧ (∀ i : Nat, (i : Int) < (S.i 55).toInt → (¬ S.i 36 = 0 → Q.a 52 i = S.a 52 i) ∧ (S.i 36 = 0 → (INR S c1 i ∧ Q.a 52 i = 0) ∨ (¬ INR S c1 i ∧ Q.a 52 i = S.a 52 i))) ∧ (vv = 0 ∨ vv = 1) ∧ f_X6_pop N (CS.setI (CS.setI Q 36 vv) 38 (Q.i 38 - 1)) = some r ∧ R.2 = r.2 ∧ ((S.i 36 = 0 ∧ vv = 0) ∨ (S.i 36 = 1 ∧ vv = S.o c1.2.1 6)) := by
    have q752 : q7.2.a 52 = S.a 52 := by
      rw [q7e]
      show D.a 52 = _
      rw [z6, a52]
    have l66 : ∀ (Q : CS) (vv : Int32), f_X7_endFinally_66 N (CS.setI Q 36 vv) = some R → ∃ r : Unit × CS, f_X6_pop N (CS.setI (CS.setI Q 36 vv) 38 (Q.i 38 - 1)) = some r ∧ R.2 = r.2 := fun Q vv h => by
      unfold f_X7_endFinally_66 at h
      obtain ⟨r, hr, h⟩ := hf_bind h
      exact ⟨r, hr, by rw [← Option.some.inj h]⟩
    rw [q736] at eg
    rcases h36 with z | z
    · rw [if_pos z] at eg
      obtain ⟨-, eg⟩ := hf_ite eg
      obtain ⟨p19, e19, eg⟩ := hf_bind eg
      rw [q7o] at e19
      unfold f_X6_loseJumps at e19
      obtain ⟨f1, f2⟩ := lj_52 N q7.2 _ _ p19 g73 e19
      unfold f_X7_endFinally_43 at eg
      have i36 : p19.2.i 36 = 0 := by rw [f1.1.1, q736]; exact z
      rw [if_pos i36] at eg
      obtain ⟨r, hr, hR⟩ := l66 _ _ eg
      refine ⟨p19.2, 0, r, f1, fun i hi => ⟨fun y => absurd z y, fun _ => ?_⟩, Or.inl rfl, hr, hR, Or.inl ⟨z, rfl⟩⟩
      obtain ⟨y1, y2⟩ := f2 i (by omega)
      rw [q752] at y2
      by_cases y : (S.o c1.2.1 14).toInt ≤ (i : Int) ∧ (i : Int) < (S.o c1.2.1 15).toInt
      · exact Or.inl ⟨⟨y.1, fun _ => y.2⟩, y1 y⟩
      · exact Or.inr ⟨fun w => y ⟨w.1, w.2 h216⟩, y2 y⟩
    · rw [if_neg (by rw [z]; decide)] at eg
      unfold f_X7_endFinally_43 at eg
      rw [q736, if_neg (by rw [z]; decide), q7o] at eg
      obtain ⟨-, eg⟩ := hf_ite eg
      have com : ∀ vv : Int32, vv = S.o c1.2.1 6 → f_X7_endFinally_66 N (CS.setI q7.2 36 vv) = some R → ∃ (Q : CS) (vv : Int32) (r : Unit × CS), E52 q7.2 Q ∧ (∀ i : Nat, (i : Int) < (S.i 55).toInt → (¬ S.i 36 = 0 → Q.a 52 i = S.a 52 i) ∧ (S.i 36 = 0 → (INR S c1 i ∧ Q.a 52 i = 0) ∨ (¬ INR S c1 i ∧ Q.a 52 i = S.a 52 i))) ∧ (vv = 0 ∨ vv = 1) ∧ f_X6_pop N (CS.setI (CS.setI Q 36 vv) 38 (Q.i 38 - 1)) = some r ∧ R.2 = r.2 ∧ ((S.i 36 = 0 ∧ vv = 0) ∨ (S.i 36 = 1 ∧ vv = S.o c1.2.1 6)) := fun vv hvv h => by
        obtain ⟨r, hr, hR⟩ := l66 _ _ h
        exact ⟨q7.2, vv, r, ⟨⟨rfl, rfl, rfl, rfl, rfl, rfl, rfl, rfl, rfl⟩, fun _ _ => rfl⟩, fun i _ => ⟨fun _ => by rw [q752], fun y => by rw [z] at y; exact absurd y (by decide)⟩, by rw [hvv]; exact zb, hr, hR, Or.inr ⟨z, hvv⟩⟩
      rcases zb with y | y
      · rw [if_pos y] at eg
        exact com 0 y.symm eg
      · rw [if_neg (by rw [y]; decide)] at eg
        exact com 1 y.symm eg
  obtain ⟨Q, vv, r, qeQ, q52, hvv, hpop, hRr, hcase⟩ := fin0
  clear eg
  -- the reference's try
  have tq : tpI q = ((T + 1 : Nat) : Int) := qj_63 a2 tV
  have t63 : (q.i 63 - 1).toInt = (T : Int) := by
    have z := tp_sub tq tt
    omega
  have qf := fun k h1 h2 => ((FRB.of a2 : FRB (T + 1) V0 q).all k h1 h2).trans (fT0 k h1 h2)
  have qf1 := fun k h1 h2 => ((FRB.of a2 : FRB (T + 2) V0 q).all k h1 h2).trans ((n3 : FRB (T + 1 + 1) s V0).all k h1 h2)
  have hVe : V = RS.setI (RS.setI (RS.setI q 19 (q.i 19 - 1)) 38 (S.o c1.2.1 3)) 63 (q.i 63 - 1) := by
    rw [V4] at hV
    have z := Option.some.inj hV
    have z66 : q.a 66 (T + 1) = S.o c1.2.1 3 := (qf1 66 (by decide) (by decide)).trans y66
    rw [← z, ← z66]
    rfl
  have tVV : tpI V = (T : Int) := by
    rw [hVe]
    exact t63
  have Va : V.a = q.a := by rw [hVe]; rfl
  obtain ⟨m3, V2, hV2, g3⟩ := rl_15 g2 tVV (by rw [hVe]; exact evA.1.2.1) (by rw [Va]; exact (qf 64 (by decide) (by decide)).trans z64)
  have ph1 : 1 ≤ phI q := by
    have := n1.2.2.2.2.2.2.2.1
    omega
  unfold f_X12_trying at hV2
  obtain ⟨-, hV2⟩ := hf_ite hV2
  have V65 : V.a 65 T = 4 := by rw [Va]; exact (qf 65 (by decide) (by decide)).trans z65
  rw [tp_nat tVV, V65, if_neg (by decide), if_neg (by decide), if_neg (by decide), if_neg (by decide)] at hV2
  obtain ⟨p75, hp75, hV2⟩ := hf_bind hV2
  obtain ⟨W2, hW2, hV2⟩ := hf_bind hV2
  rw [Option.some.inj hV2] at hW2
  clear hV2
  have V66 : V.a 66 T = s.a 66 T := by rw [Va]; exact qf 66 (by decide) (by decide)
  rw [V66, hVe] at hp75
  obtain ⟨yy1, hy1, -, w1⟩ := cm_emit (by decide) hp75
  obtain ⟨yy2, hy2, -, w2⟩ := cm_emit (by decide) hy1
  obtain ⟨em, hem, -, w3'⟩ := cm_emit (by decide) hy2
  have p75e : p75.2 = RS.setI (RS.setI (RS.setI em.2 19 (q.i 19 - 1)) 38 (S.o c1.2.1 3)) 63 (q.i 63 - 1) := by rw [w1, w2, w3']
  clear hp75 hy1 hy2 w1 w2 w3'
  obtain ⟨x1, x2, x3, x4, x5, x6, x7, x8, x9, x10, x11⟩ := y_emit evD (t := T + 1) tq ph1 hem
  have qjm := (qj2_eq (em_env evD ph1 hem).2.2.1).1
  -- the state behind the block, its sign still open
  have ob := hC.2.2.2.2.2.2.2.1.2
  have lo := BAZ.lo _ bz
  have obc := ob.1 c1 List.mem_cons_self
  have sz : TBZ s em.2 := (n4.1.tr tk.1).tr x4.1
  obtain ⟨y1, y2, y3, y4, y5, y6, y7, y8, y9, y10⟩ := sz.1
  have s50 := hv.2.1.1
  obtain ⟨s9, hs9⟩ : ∃ y, y = RS.setI (RS.setI em.2 38 (S.o c1.2.1 3)) 63 (q.i 63 - 1) := ⟨_, rfl⟩
  have ev9 : ENV d (CS.setI D 50 (S.o c1.2.1 3)) s9 := by
    rw [hs9]
    exact (x1.less (w := S.o c1.2.1 3) ⟨by omega, by rw [y4, ← s50]; exact obc.2⟩).s63
  have si : ∀ k : Nat, k ≠ 38 → k ≠ 63 → s9.i k = em.2.i k := fun k h1 h2 => by
    rw [hs9]
    exact (if_neg h2).trans (if_neg h1)
  have sa : s9.a = em.2.a ∧ s9.b = em.2.b ∧ s9.l = em.2.l := by rw [hs9]; exact ⟨rfl, rfl, rfl⟩
  have s38 : s9.i 38 = S.o c1.2.1 3 := by rw [hs9]; rfl
  have s63 : s9.i 63 = q.i 63 - 1 := by rw [hs9]; rfl
  have p75s : p75.2 = RS.setI s9 19 (q.i 19 - 1) := by
    rw [p75e, hs9, rsI_comm (r := em.2) (j := 19) (k := 38) (by decide), rsI_comm (r := RS.setI em.2 38 (S.o c1.2.1 3)) (j := 19) (k := 63) (by decide)]
  have hs9d := hs9
  clear hs9 p75e
  have trs : TBR s s9 := by
    have z := sz.r
    unfold TBR at *
    rw [sa.1, sa.2.1, si 59 (by decide) (by decide), si 29 (by decide) (by decide), si 33 (by decide) (by decide), si 24 (by decide) (by decide)]
    exact z
  have frm : FRB T s em.2 := (fr0.tr (FRB.of a2)).tr (x3 T)
  have frsV : FRB T s s9 := fun j hj => by
    have z := frm j hj
    rw [sa.1, sa.2.1]
    exact z
  have cds : CDK (s.i 20).toInt s s9 := by
    have z := n4.2
    refine ⟨?_, fun j hj => ?_⟩
    · rw [si 20 (by decide) (by decide), x7, a6]
      have := z.1
      omega
    · rw [sa.1, x4.2.2 j (by rw [a6]; have := z.1; omega), a7]
      exact z.2 j hj
  have mf : ∀ k : Nat, 64 ≤ k → k ≤ 73 → s9.a k T = s.a k T := fun k h1 h2 => by
    rw [sa.1, (x3 (T + 1)).all k h1 h2]
    exact qf k h1 h2
  have mf1 : ∀ k : Nat, 64 ≤ k → k ≤ 73 → s9.a k (T + 1) = s.a k (T + 1) := fun k h1 h2 => by
    rw [sa.1, (x3 (T + 1 + 1)).all k h1 h2]
    exact qf1 k h1 h2
  have mf2 : s9.a 64 (T + 1 + 1) = 1 := by
    rw [sa.1, (x3 (T + 1 + 1 + 1)).all 64 (by decide) (by decide), (FRB.of a2 : FRB (T + 1 + 1 + 1) V0 q).all 64 (by decide) (by decide), n10'.2.1]
    exact y641
  have v11 : s9.i 11 = q.i 11 := by rw [si 11 (by decide) (by decide)]; exact x8
  have v17 : s9.i 17 = q.i 17 := by rw [si 17 (by decide) (by decide)]; exact x9
  have phv : phI s9 = phI q - 1 := by
    rw [← x5]
    unfold phI
    rw [si 17 (by decide) (by decide), si 20 (by decide) (by decide)]
  have v43 : s9.i 43 = s.i 43 := by rw [si 43 (by decide) (by decide)]; exact y5
  have v56 : s9.i 56 = s.i 56 := by rw [si 56 (by decide) (by decide)]; exact y7
  -- D9: the class there
  obtain ⟨D9, hD9⟩ : ∃ X, X = CS.setI D 50 (S.o c1.2.1 3) := ⟨_, rfl⟩
  rw [← hD9] at ev9
  have Xi : ∀ k : Nat, k ≠ 50 → D9.i k = D.i k := fun k h => by rw [hD9, ci_ne _ _ _ h]
  have X50 : D9.i 50 = S.o c1.2.1 3 := by rw [hD9, ci_at]
  have Xo : D9.o = S.o := by
    rw [hD9]
    show D.o = _
    exact oD
  have Xr : D9.r = D.r ∧ D9.ol = D.ol ∧ D9.a = D.a ∧ D9.b = D.b ∧ D9.l = D.l ∧ (D9.hs = D.hs ∧ D9.L = D.L ∧ D9.k = D.k) := by rw [hD9]; exact ⟨rfl, rfl, rfl, rfl, rfl, rfl, rfl, rfl⟩
  clear hD9
  have Xo1 : ∀ a : Nat, a ≠ c1.2.1 → D9.o a = S.o a ∧ D9.ol a = S.ol a := fun a _ => ⟨by rw [Xo], by rw [Xr.2.1, z3, eolA]⟩
  have XrS : D9.r = S.r := by rw [Xr.1]; exact rD
  have tbb := hC.2.2.2.2.2.1.2.1
  have nn := hC.2.2.2.2.2.2.2.2.1
  have rr := hC.2.2.2.2.2.2.1
  have pdm : PDM S (c1 :: c :: L) = dbt (S.o c1.2.1 0) + PDM S (c :: L) := rfl
  have d0 : dbt (S.o c1.2.1 0) = 0 := by rw [h216]; rfl
  have X53 : D9.i 53 = S.i 53 := by rw [Xi 53 (by decide)]; exact D53
  have i22 : D9.i 22 = S.i 22 := by rw [Xi 22 (by decide), z8, a8]
  have k11 := hv.1.2.2.2.1.1
  have k11' := evA.1.2.2.2.1.1
  have rt : RTE S D9 := by
    unfold RTE
    rw [Xi 21 (by decide), z7, j21, Xi 54 (by decide), z16, j54, Xi 55 (by decide), z17, j55, Xi 44 (by decide), z13, k11, k11']
    omega
  have tyX : isTy (D9.o c1.2.1 0) := by rw [Xo]; exact ty
  have hcol : ∃ col : Nat → Option (Nat × Bool), COL D9 s9 (c1 :: c :: L) col (b.i 20).toInt := by
    obtain ⟨-, -, b0, col, hc⟩ := id hC.2.2.2.2.2.2.2.2.2.2
    refine ⟨_, hc.chT b0 hC.injG (fun y _ => by rw [Xo]) (fun y hy => ?_) (by rw [← hTc]; exact frsV) trs cds tyX⟩
    obtain ⟨w1, w2, w3, w4, w5⟩ := hC.inlB tp y hy
    rw [X53, XrS, Xo]
    exact ⟨w1, w2, w3, w4, w5⟩
  have rfr : RFR D9 s9 c1.2.1 (ceT c1) (ceG c1) (ceW c1) := by
    rw [← hTc]
    refine RFR.mTy tyX ⟨⟨(mf 64 (by decide) (by decide)).trans z64, ?_, ?_, fun z => ?_⟩, ?_⟩
    · rw [mf 66 (by decide) (by decide)]
      have := trs.2.2.2.2.2.1
      exact ⟨zid.1, by omega⟩
    · rw [mf 67 (by decide) (by decide), mf 72 (by decide) (by decide), Xo]
      exact zwh
    · rw [Xo, h216] at z
      unfold isWl at z
      exact absurd z (by decide)
    · rw [Xo, h216]
      exact ⟨fun z => absurd z (by decide), fun z => absurd z (by decide), fun z => absurd z (by decide), fun _ => ⟨(mf 65 (by decide) (by decide)).trans z65, ⟨⟨(mf1 64 (by decide) (by decide)).trans y64, (mf1 65 (by decide) (by decide)).trans y65, mf2⟩, (mf1 66 (by decide) (by decide)).trans y66⟩, (mf 68 (by decide) (by decide)).trans z68⟩, zb⟩
  have cD : COR d B b t0 (c1 :: c :: L) (-9) D9 s9 := hC.chg tp hT (hC.b53 tp bz) ev9 (by rw [← hTc]; exact frsV) trs cds ⟨by rw [si 2 (by decide) (by decide)]; exact y1, by rw [si 3 (by decide) (by decide)]; exact y2, by rw [si 8 (by decide) (by decide)]; exact y3, by rw [sa.1]; exact y8, by rw [sa.1]; exact y9, by rw [sa.2.1]; exact y10⟩ (by rw [s38]; exact obc.1) v43 (by rw [v56]; exact tbb.2.2.1) (by
      rw [s38, v11]
      have := obc.2
      rw [s50] at this
      omega)
    XrS Xo1 ⟨by rw [Xo], by rw [Xo], by rw [Xo]⟩ ⟨i22, by rw [Xi 38 (by decide)]; exact D38e, X53, by rw [Xi 54 (by decide), z16, j54], by rw [Xi 55 (by decide), z17, j55], by rw [Xi 56 (by decide), z18, j56]⟩ ⟨by rw [Xr.2.2.1, z5, a9.1], by rw [Xr.2.2.1, z6, a52]⟩ (fun y hy => by
      rw [X50]
      rcases List.mem_cons.mp hy with z | hy2
      · rw [z]
        exact Int.le_refl _
      · exact ob.2.1 y hy c1 List.mem_cons_self (STK.ord (c :: L) c1 _ _ _ hC.2.1 y hy2))
    ngo (by rw [Xo]; exact ngo) (by rw [Xo]) (by rw [Xo]) (by rw [Xo]; exact d0) (fun _ => by rw [Xo]; exact h216) (fun _ => Or.inr ⟨h216, by rw [Xo]⟩) (fun _ => ⟨by rw [Xo], by rw [← hTc]; exact mf 66 (by decide) (by decide), by rw [← hTc]; exact mf 72 (by decide) (by decide)⟩) rfr hcol rt ⟨by rw [v11]; omega, by omega, by rw [v17]; omega, by rw [Xo, si 19 (by decide) (by decide), x10, a10, n10'.1]⟩ (by rw [Xo, h216]; unfold isKS isOne isTy; decide)
  have tpD : TOP D9 s9 c1 := ⟨by rw [X53]; exact tp.1, by rw [v43, Xo]; exact tp.2.1, by rw [v56, Xo]; exact tp.2.2⟩
  -- the try's end
  have e75 : s9.i 75 = S.i 36 := by
    rw [si 75 (by decide) (by decide), (qj_eq qjm).2.2.2.2.2.2.2.2.2.2.2.2.2.2.2.2.2.1, (qj_eq a2).2.2.2.2.2.2.2.2.2.2.2.2.2.2.2.2.2.1]
    exact n5
  have p75i : ∀ k : Nat, k ≠ 19 → p75.2.i k = s9.i k := fun k hk => by rw [p75s]; exact if_neg hk
  have p75a : p75.2.a = s9.a ∧ p75.2.b = s9.b ∧ p75.2.l = s9.l := by rw [p75s]; exact ⟨rfl, rfl, rfl⟩
  rw [p75i 75 (by decide), e75] at hW2
  unfold f_X12_endTry at hW2
  obtain ⟨-, hW2⟩ := hf_ite hW2
  rw [tp_nat tVV] at hW2
  obtain ⟨-, hW2⟩ := hf_ite hW2
  obtain ⟨σ1, hrs, hW2⟩ := hf_bind hW2
  obtain ⟨σ0, hσ0⟩ : ∃ y, y = RS.setA (RS.setI p75.2 52 (p75.2.i 52 - 1)) 32 (p75.2.a 66 T).toNatClampNeg (p75.2.i 20) := ⟨_, rfl⟩
  rw [← hσ0, p75a.1, mf 66 (by decide) (by decide)] at hrs
  have s0i : ∀ k : Nat, k ≠ 52 → k ≠ 19 → σ0.i k = s9.i k := fun k h1 h2 => by
    rw [hσ0]
    exact (show (RS.setI p75.2 52 (p75.2.i 52 - 1)).i k = p75.2.i k from if_neg h1).trans (p75i k h2)
  have s0a : ∀ k : Nat, k ≠ 32 → σ0.a k = s9.a k := fun k hk => by
    rw [hσ0, setA_nk hk]
    show p75.2.a k = _
    rw [p75a.1]
  have s0b : σ0.l = s9.l ∧ σ0.b = s9.b := by rw [hσ0]; exact ⟨p75a.2.2, p75a.2.1⟩
  have s019 : σ0.i 19 = q.i 19 - 1 := by
    rw [hσ0]
    show p75.2.i 19 = _
    rw [p75s]
    rfl
  have hσd := hσ0
  clear hσ0
  unfold f_X12_resolve at hrs
  have rx := rs_x N σ0 σ1 0 (by rw [z_t0]; exact Int.le_refl _) hrs
  rw [z_t0] at rx
  have s68 : σ1.a 68 T = S.o c1.2.1 6 := by
    rw [rx.1.2.2.2 68 (by decide) (by decide) (by decide), s0a 68 (by decide), mf 68 (by decide) (by decide)]
    exact z68
  have ho : f_X12_over N σ1 vv = some V2 := by
    have un : ∀ w : Int32, ((f_X12_over N σ1 w).bind fun p => some p) = some V2 → f_X12_over N σ1 w = some V2 := fun w h => by
      obtain ⟨p, hp, h⟩ := hf_bind h
      rw [Option.some.inj h] at hp
      exact hp
    rcases hcase with ⟨y1, y2⟩ | ⟨y1, y2⟩
    · rw [if_pos y1] at hW2
      rw [y2]
      exact un 0 hW2
    · rw [if_neg (by rw [y1]; decide), s68] at hW2
      rw [y2]
      rcases zb with y | y
      · rw [if_neg (by rw [y]; decide)] at hW2
        rw [y]
        exact un 0 hW2
      · rw [if_pos y] at hW2
        rw [y]
        exact un 1 hW2
  unfold f_X12_over at ho
  obtain ⟨-, ho⟩ := hf_ite ho
  have Ve := (Option.some.inj ho).symm
  have rx' := rx.s19 (w := s9.i 19)
  obtain ⟨v', hv'⟩ : ∃ y, y = RS.setI (RS.setI (RS.setI σ1 19 (s9.i 19)) 75 vv) 63 (σ1.i 63 - 1) := ⟨_, rfl⟩
  have V2e : V2 = RS.setI v' 19 (q.i 19 - 1) := by
    have z19 : σ1.i 19 = q.i 19 - 1 := by rw [rx.1.1]; exact s019
    rw [Ve, hv', rsI_comm (r := RS.setI σ1 19 (s9.i 19)) (j := 75) (k := 63) (by decide), rsI_comm (r := RS.setI (RS.setI σ1 19 (s9.i 19)) 63 (σ1.i 63 - 1)) (j := 75) (k := 19) (by decide), rsI_comm (r := RS.setI σ1 19 (s9.i 19)) (j := 63) (k := 19) (by decide), rsI_bk z19, rsI_comm (r := σ1) (j := 63) (k := 75) (by decide)]
  have v'i : ∀ k : Nat, k ≠ 52 → k ≠ 63 → k ≠ 75 → v'.i k = s9.i k := fun k h1 h2 h3 => by
    rw [hv']
    have z : (RS.setI (RS.setI (RS.setI σ1 19 (s9.i 19)) 75 vv) 63 (σ1.i 63 - 1)).i k = (RS.setI σ1 19 (s9.i 19)).i k := (if_neg h2).trans (if_neg h3)
    rw [z]
    by_cases y : k = 19
    · rw [y]
      rfl
    · have w : (RS.setI σ1 19 (s9.i 19)).i k = σ1.i k := if_neg y
      rw [w, rx.1.1, s0i k h1 y]
  have v'a : v'.a = σ1.a ∧ v'.l = σ1.l ∧ v'.b = σ1.b := by rw [hv']; exact ⟨rfl, rfl, rfl⟩
  have v'75 : v'.i 75 = vv := by rw [hv']; rfl
  have v'63 : v'.i 63 = σ1.i 63 - 1 := by rw [hv']; rfl
  clear hv'
  have t9 : (s9.i 63).toInt = (T : Int) := by rw [s63]; exact t63
  have e63 : σ1.i 63 = s9.i 63 := by rw [rx.1.1, s0i 63 (by decide) (by decide)]
  -- the class's last state, its sign still open
  obtain ⟨⟨f1, f2, f3, f4, f5, f6, f7⟩, f8⟩ := qeQ
  have Q53 : Q.i 53 = S.i 53 := by
    rw [f1, q7e]
    show D.i 53 = _
    exact D53
  have Q38 : Q.i 38 = S.i 38 := by
    rw [f1, q7e]
    show D.i 38 = _
    exact D38e
  obtain ⟨lk, lw⟩ : LNK S c1 c ∧ LOW S s c := by
    obtain ⟨m', e', k', -, lkl, -⟩ := hC.2.1
    exact lkl c rfl
  have i53 : (CS.setI (CS.setI Q 36 vv) 38 (Q.i 38 - 1)).i 53 = S.i 53 := by
    rw [ci_ne _ _ _ (by decide), ci_ne _ _ _ (by decide)]
    exact Q53
  obtain ⟨pp1, pp2⟩ := e_pop (n := c.1) (by rw [i53]; have := tp.1; have := lk.1; omega) hpop
  rw [i53] at pp1 pp2
  obtain ⟨R', hR'⟩ : ∃ X, X = CS.setI r.2 34 (D.i 34) := ⟨_, rfl⟩
  have ri : ∀ k : Nat, k ≠ 34 → k ≠ 36 → k ≠ 38 → k ≠ 53 → r.2.i k = D9.i k := fun k h0 h1 h2 h3 => by
    rw [pp1, ci_ne _ _ _ h3, ci_ne _ _ _ h2, ci_ne _ _ _ h1, f1, q7e]
    by_cases y : k = 50
    · rw [y, ci_at, X50]
    · rw [ci_ne _ _ _ y, ci_ne _ _ _ h0, Xi k y]
  have r34 : r.2.i 34 = A.2.i 34 - 1 := by
    rw [pp1, ci_ne _ _ _ (by decide), ci_ne _ _ _ (by decide), ci_ne _ _ _ (by decide), f1, q7e, ci_ne _ _ _ (by decide), ci_at]
  have R'i : ∀ k : Nat, k ≠ 36 → k ≠ 38 → k ≠ 53 → R'.i k = D9.i k := fun k h1 h2 h3 => by
    rw [hR']
    by_cases y : k = 34
    · rw [y, ci_at, Xi 34 (by decide)]
    · rw [ci_ne _ _ _ y]
      exact ri k y h1 h2 h3
  have R'f : R'.r = D9.r ∧ R'.ol = D9.ol ∧ R'.b = D9.b ∧ R'.l = D9.l ∧ (R'.hs = D9.hs ∧ R'.L = D9.L ∧ R'.k = D9.k) ∧ R'.o = D9.o := by
    rw [hR', pp1]
    show Q.r = D9.r ∧ Q.ol = D9.ol ∧ Q.b = D9.b ∧ Q.l = D9.l ∧ (Q.hs = D9.hs ∧ Q.L = D9.L ∧ Q.k = D9.k) ∧ Q.o = D9.o
    rw [f2, f3, f4, f5, f6, f7.1, f7.2.1, f7.2.2, q7e, Xr.1, Xr.2.1, Xr.2.2.2.1, Xr.2.2.2.2.1, Xr.2.2.2.2.2.1, Xr.2.2.2.2.2.2.1, Xr.2.2.2.2.2.2.2, Xo, ← oD]
    exact ⟨rfl, rfl, rfl, rfl, ⟨rfl, rfl, rfl⟩, rfl⟩
  have R'a : ∀ k : Nat, k ≠ 52 → R'.a k = D9.a k := fun k hk => by
    rw [hR', pp1]
    show Q.a k = D9.a k
    rw [f8 k hk, q7e, Xr.2.2.1]
    rfl
  have R'52 : R'.a 52 = Q.a 52 := by
    rw [hR', pp1]
    rfl
  have R'36 : R'.i 36 = vv := by
    rw [hR', ci_ne _ _ _ (by decide), pp1, ci_ne _ _ _ (by decide), ci_ne _ _ _ (by decide), ci_at]
  have R'38 : R'.i 38 = S.i 38 - 1 := by
    rw [hR', ci_ne _ _ _ (by decide), pp1, ci_ne _ _ _ (by decide), ci_at, Q38]
  have R'53 : R'.i 53 = S.i 53 - 1 := by
    rw [hR', ci_ne _ _ _ (by decide), pp1, ci_at]
  have rkd : pj2 r.2 = pj2 (CS.setI R' 34 (A.2.i 34 - 1)) := by
    rw [hR']
    exact pj2_34b r34
  clear hR'
  have s38' := cD.2.2.2.2.2.2.2.1.1
  have ed : DSM D9 (c1 :: c :: L) = (nDp (D9.o c1.2.1 0) : Int) + DSM D9 (c :: L) := rfl
  have dp : nDp (D9.o c1.2.1 0) = 1 := by rw [Xo, h216]; rfl
  have ds := (PDM.ge D9 (c :: L)).2
  obtain ⟨b38, -⟩ := BAZ.b38 _ bz
  have D938 : D9.i 38 = S.i 38 := by rw [Xi 38 (by decide)]; exact D38e
  have d38 : (S.i 38 - 1).toInt = (D9.i 38).toInt - 1 := by
    have e1 : (1 : Int32).toInt = 1 := by decide
    have hi := Int32.toInt_lt (S.i 38)
    rw [D938] at s38' ⊢
    rw [toInt_sub] <;> rw [e1] <;> omega
  have w56 : (s9.i 56).toInt = (ceW c1 : Int) := by
    have z := tpD.2.2
    rw [Xo, h216] at z
    exact z
  have D955 : D9.i 55 = S.i 55 := by rw [Xi 55 (by decide), z17, j55]
  have D952 : D9.a 52 = S.a 52 := by rw [Xr.2.2.1, z6, a52]
  have inr9 : ∀ i : Nat, INR D9 c1 i ↔ INR S c1 i := fun i => by
    unfold INR
    rw [Xo]
  obtain ⟨w0, hw0⟩ := b19_up hC
  have pc : POPD d B (RS.setI b 19 w0) t0 c L R' v' := by
    refine cD.remT (σ0 := RS.setI σ0 19 (s9.i 19)) (σ1 := RS.setI σ1 19 (s9.i 19)) (x2 := S.i 36) (vv := vv) tpD bz hT tyX ⟨s0i 59 (by decide) (by decide), by show (σ0.i 56).toInt = _; rw [s0i 56 (by decide) (by decide)]; exact w56⟩ s0a (by rw [← hTc, mf 66 (by decide) (by decide)]; exact rx') ⟨fun k h1 _ h3 h4 => v'i k h1 h3 h4, by rw [v'a.2.1, rx.1.2.1, s0b.1], by rw [v'a.2.2, rx.1.2.2.1, s0b.2], fun k h1 h2 h3 h4 => by rw [v'a.1, rx.1.2.2.2 k h2 h3 h4, s0a k h1]⟩ ?_ v'75 ?_ ⟨by rw [v'a.1]; rfl, by rw [v'a.1]; rfl, by rw [v'a.1]; rfl⟩ R'i hvv R'36 (by rw [R'38]; exact d38) (by rw [R'53]; exact pp2) ⟨R'f.1, R'f.2.1, R'f.2.2.1, R'f.2.2.2.1, R'f.2.2.2.2.1⟩ (fun a _ => by rw [R'f.2.2.2.2.2]) ⟨R'a 0 (by decide), R'a 9 (by decide), R'a 18 (by decide), R'a 49 (by decide)⟩ (fun i hi => ?_) ?_ (w0 := w0) (by rw [Xo, h216]; show _ = _ + ((1 : Nat) : Int); omega)
    · rw [v'i 56 (by decide) (by decide) (by decide)]
      exact (s0i 56 (by decide) (by decide)).symm
    · show (v'.i 63).toInt = _
      rw [v'63, e63, ← hTc]
      have z : tpI s9 = (T : Int) := t9
      exact tp_sub z (by omega)
    · rw [D955] at hi
      rw [R'52, D952, inr9]
      exact q52 i hi
    · rw [X50, Xo]
  -- one sign less
  have sg1 : sgn D9 (rowA D9 c1.1) = 1 := by
    have ra : rowA D9 c1.1 = c1.2.1 := by
      unfold rowA
      rw [XrS, cst.1]
      rfl
    rw [ra]
    unfold sgn
    rw [Xo, h216]
    rfl
  have ev := pop_sg (n := c1.1) ev9 (X := R') R'f.1 R'f.2.2.2.2.2 R'f.2.1 (by rw [X53]; exact tp.1) (by
    rw [R'53, pp2]
    have := lk.1
    omega) (by rw [sg1]; exact Int.le_refl _) pc.1.1 (v'i 19 (by decide) (by decide) (by decide))
  have s919 : s9.i 19 = q.i 19 := by rw [si 19 (by decide) (by decide)]; exact x10
  have D934 : D9.i 34 = A.2.i 34 := by rw [Xi 34 (by decide)]; exact z9
  rw [s919, D934] at ev
  refine ⟨m3, V2, g3, ?_, fun _ jw crB => ?_⟩
  · have hT' : t0 ≤ ceT c + wid (R'.o c.2.1 0) := by rw [R'f.2.2.2.2.2, Xo, ← lk.2.1]; exact hT
    rw [V2e]
    exact (pc.sg hT' ev (by rw [v'i 19 (by decide) (by decide) (by decide), s919]; exact sub19 evD) hw0).kd (by rw [hRr]; exact rkd) hT'
  -- the code
  have adr := hC.adr
  have V2a : V2.a = σ1.a := by rw [Ve]; rfl
  have Ro : R.2.o = S.o := by
    rw [hRr, pp1]
    show Q.o = S.o
    first
      | exact f2.trans q7o
      | exact f3.trans q7o
      | exact f4.trans q7o
      | exact f5.trans q7o
      | exact f6.trans q7o
  have s1a : ∀ k : Nat, k ≠ 32 → k ≠ 50 → k ≠ 51 → k ≠ 62 → σ1.a k = s9.a k := fun k h1 h2 h3 h4 => by rw [rx.1.2.2.2 k h2 h3 h4, s0a k h1]
  have ltT : ∀ y ∈ c :: L, ceT y < ceT c1 := fun y hy => by
    have z1 := (hC.inlB tp y hy).2.2.1
    have z2 := wid1 (S.o y.2.1 0)
    omega
  have veq9 : vws D9 s9 (c :: L) = vws S s (c :: L) := vws.eqf (T := ceT c1) (fun j hj => (trs.1 j hj).2.1) (c :: L) (fun y hy => hC.o3 y (List.mem_cons_of_mem _ hy)) (fun y hy => by rw [Xo]) (fun k t h1 h2 h3 => frsV.fld k t h1 h2 (by rw [hTc]; exact h3)) ltT
  have veq : vws R.2 V2 (c :: L) = vws S s (c :: L) := vws.eqf (T := ceT c1) (fun j hj => by rw [V2a, s1a 40 (by decide) (by decide) (by decide) (by decide)]; exact (trs.1 j hj).2.1) (c :: L) (fun y hy => hC.o3 y (List.mem_cons_of_mem _ hy)) (fun y hy => by rw [Ro]) (fun k t h1 h2 h3 => by rw [V2a, s1a k (by omega) (by omega) (by omega) (by omega)]; exact frsV.fld k t h1 h2 (by rw [hTc]; exact h3)) ltT
  rw [veq]
  obtain ⟨nd, nd2, ⟨yb, b0⟩, k30, k37, wts⟩ := cD.tys (σ0 := σ0) tpD bz tyX (by rw [s0i 56 (by decide) (by decide)]; exact w56) s0a
  have m66 : s9.a 66 (ceT c1) = s.a 66 (ceT c1) := by rw [← hTc]; exact mf 66 (by decide) (by decide)
  have m72 : s9.a 72 (ceT c1) = s.a 72 (ceT c1) := by rw [← hTc]; exact mf 72 (by decide) (by decide)
  rw [veq9] at nd nd2 wts
  rw [m66] at nd yb k30
  rw [m72] at nd2 k30 k37
  have cky := clampI (show 0 ≤ (s.a 66 (ceT c1)).toInt by omega)
  obtain ⟨E, hE⟩ : ∃ E, E = s.i 52 - 1 := ⟨_, rfl⟩
  obtain ⟨w, hw⟩ : ∃ w, w = q.i 19 - 1 := ⟨_, rfl⟩
  obtain ⟨v, hvd⟩ : ∃ v, v = S.i 38 - 1 := ⟨_, rfl⟩
  obtain ⟨o3', ho3⟩ : ∃ o3, o3 = S.o c1.2.1 3 := ⟨_, rfl⟩
  obtain ⟨ee, he1, he2⟩ := clo_e (S.i 43)
  have ee1 : ee ≤ 1 := by rcases he1 with z | ⟨z, -⟩ <;> omega
  have h44A : (A.2.i 44).toInt ≤ 900 := by
    rw [evA.p44.1]
    exact (i11_hi evA).2
  have e1 : (1 : Int32).toInt = 1 := by decide
  have v38i : v.toInt = (S.i 38).toInt - 1 := by rw [hvd, d38, D938]
  have w19 : (b.i 19).toInt + (sfr (vws S s (c :: L)) : Int) ≤ w.toInt := by
    have z1 := hC.2.2.2.2.2.2.1.2.2.2
    have z2 : SSM S (c1 :: c :: L) = (nSg (S.o c1.2.1 0) : Int) + SSM S (c :: L) := rfl
    have z3 : nSg (S.o c1.2.1 0) = 1 := by rw [h216]; rfl
    have z4 := sfr_ss (S := S) (s := s) (c :: L)
    rw [hw, sub19 evD, a10, n10'.1]
    omega
  have hr0 : (vw S s c1).v = 216 := h216
  have f66 : (vw S s c1).2.1 66 = s.a 66 (ceT c1) := vw_at (k := 66) ⟨by decide, by decide⟩
  have f72 : (vw S s c1).2.1 72 = s.a 72 (ceT c1) := vw_at (k := 72) ⟨by decide, by decide⟩
  have obo : (S.o c1.2.1 3).toInt ≤ (s.i 38).toInt := hC.o3 c1 List.mem_cons_self
  have r0 : ¬ (vw S s c1).2.2.1 = 0 := by
    show ¬ c1.1 = 0
    have := lk.1
    omega
  have t6 : isTyv (vw S s c1) := ty
  have e6 : rtgs (vw S s c1) = [(vw S s c1).1 9] := by
    unfold rtgs
    rw [hr0, if_neg (by decide), if_pos (by decide)]
  have en : ∀ (G : GHT) (ω h l : Nat), jen G ω (vw S s c1) h l = [(3, h, (S.o c1.2.1 9).toNatClampNeg - 2, (s.a 66 (ceT c1)).toNatClampNeg, 0, 0, ω + l)] := fun G ω h l => by
    unfold jen
    rw [hr0, if_neg (by decide), if_neg (by decide), if_neg (by decide), if_pos rfl, f66]
    rfl
  obtain ⟨g, ⟨-, g16, -, g30⟩, j0⟩ := JRW.cly (V := vws S s (c :: L)) (r := vw S s c1) (r' := vw S s c1) (u' := RS.setI (RS.setI (RS.setI s 52 E) 19 w) 38 o3') (S' := CS.setI S 38 v) (tl := []) (e := ee) (dr := 0) crB jw (fun z => z.cl rfl rfl (show E = s.i 52 - d32 (vw S s c1).v by rw [d32.yes (v := (vw S s c1).v) (Or.inr (Or.inr (Or.inr (Or.inl h216)))), hE]) (show o3'.toInt ≤ (s.i 38).toInt by rw [ho3]; exact obo)) r0 (Or.inr (Or.inr h216)) (Or.inr ⟨h216, h216⟩) ⟨rfl, rfl, rfl, rfl, rfl, rfl⟩ rfl ⟨⟨rfl, rfl, rfl, rfl, rfl⟩, rfl, rfl, rfl, rfl⟩ ⟨⟨rfl, rfl, rfl, rfl, rfl⟩, rfl, rfl, rfl, rfl, rfl, rfl, rfl, rfl, rfl, rfl, rfl, rfl, rfl, rfl⟩ ⟨Or.inr w19, rfl, rfl, rfl⟩ (fun _ _ _ => rfl) (fun nm G ω j nb ng hcx => by
    rw [en] at ng hcx
    refine ⟨NMH.pop2 ng (by show o3'.toInt ≤ _; rw [ho3]; exact obo) (fun y => absurd (show (3 : Nat) = 2 from y) (by decide)) rfl rfl rfl ?_ ?_ rfl rfl rfl, hcx.tl⟩
    · show (S.i 38).toInt = v.toInt + (if (3 : Nat) ≤ 3 then 1 else 0)
      rw [if_pos (by decide)]
      omega
    · show (s.i 52).toInt = E.toInt + 1
      have n3 : (((j.c.length + 1 : Nat)) : Int) = (s.i 52).toInt := ng.2.2.1
      have hi := Int32.toInt_lt (s.i 52)
      have z : (s.i 52 - 1).toInt = (s.i 52).toInt - 1 := by
        rw [toInt_sub] <;> rw [e1] <;> omega
      rw [hE]
      omega) ⟨by omega, fun _ => Int.le_refl _⟩ he1
  rw [f66] at g16
  have g31 := g16 h216
  -- the token
  obtain ⟨-, -, -, -, -, -, -, -, -, -, -, -, -, oi50, -, -, -, -, -, -, oa48, oa49, -, -, -, -, -, oi21, -⟩ := pj_eq a3
  have l44 : (S.i 44).toInt + 1 ≤ (A.2.i 44).toInt := by
    rw [hv.p44.1, evA.p44.1]
    omega
  have wi := n10'.2.2.1
  have waa := n10'.2.2.2.1
  have qV0 : qe V0 = qe s := by
    unfold qe
    rw [wi 20 (by decide) (by decide), wi 24 (by decide) (by decide), wi 29 (by decide) (by decide), wi 33 (by decide) (by decide), wi 42 (by decide) (by decide), wi 52 (by decide) (by decide), waa 21 (by decide), waa 22 (by decide), waa 23 (by decide), waa 25 (by decide), waa 26 (by decide), waa 27 (by decide), waa 28 (by decide), waa 30 (by decide), waa 31 (by decide), waa 32 (by decide), waa 34 (by decide), waa 35 (by decide), waa 36 (by decide), waa 37 (by decide)]
  have qqe := kre_f_X12_next N V0 q hq
  have nvs : NMV s q := NMV.tr ⟨wi 38 (by decide) (by decide), fun j _ => by rw [waa 40 (by decide)]⟩ (NMV.tbk tk)
  have j1 := j0.cek (R := CS.setI A.2 38 v) 1 (pe.s38 (ke_X9_advance N S A eA)) oi21 oa48 oa49 oi50 l44
  have hqs : qe (RS.setI q 52 E) = qe (RS.setI s 52 E) := qe.s52 (v := E) (qqe.trans qV0)
  have j2 := j1.se (u := RS.setI (RS.setI q 52 E) 38 o3') hqs ⟨rfl, fun j hj => by
    refine nvs.2 j ?_
    have z : (j : Int) < o3'.toInt := hj
    rw [ho3] at z
    omega⟩
  have prq : pcR q = pcR s := (pcR.qe qqe).trans (pcR.qe qV0)
  have pcA : pcC A.2 = pcC S := pcC.pe (ke_X9_advance N S A eA)
  have p20q := evA.p20
  have j3 := j2.one (K' := fun FC SF nm X0 ω j Z => ((PQX SF U (pcC S) (pcR s) ∧ SF.a 15 (pcC S) = 59 ∧ U.a 21 (pcR s) = 35) ∧ (pcC (CS.setI l2.2 38 v) = pcC S + 1 ∧ pcR (RS.setI (RS.setI em.2 52 E) 38 o3') = pcR s + 1) ∧ TYC SF U (GU FC SF U nm X0) (ω + j.t) j.c ∧ j.t ≤ j.l) ∧ KTY U (vw S s c1) g S s FC SF nm X0 ω j Z) (add_sh (D := v) el2') h44A (by omega) (em_s38 (E := o3') (em_sh (E := E) hem)) ⟨p20q.1, by show (q.i 20).toInt < 3000; omega⟩ (fun FC SF nm X0 ω j Z pq a1 a2 b1 b2 b3 v1 v2 nmh hc hh tyc tl hω k => by
    have e1 : pcC (CS.setI A.2 38 v) = pcC S := pcA
    have e2 : pcR (RS.setI (RS.setI q 52 E) 38 o3') = pcR s := prq
    rw [e1, e2] at pq
    rw [e1] at a1 v1
    rw [e2] at b1 v2
    exact ⟨⟨⟨pq, a1, b1⟩, ⟨v1, v2⟩, tyc, tl⟩, k⟩)
  have erj : rjw [vw S s c1] = [vw S s c1] := rjw.y ⟨show isTy (vw S s c1).v from t6, r0⟩
  have j4 := JRG.s30 (W := [vw S s c1]) (k := 32) (y := (s.a 66 (ceT c1)).toNatClampNeg) (v := em.2.i 20) j3 (Or.inr (Or.inr rfl)) (by omega) (by
    rw [erj]
    exact ⟨vw S s c1, List.mem_cons_self, t6, by rw [f66]; exact cky⟩) (fun q' hq' tq' z => (nd q' hq' tq').1 (by
    have z1 := clampI (nd q' hq' tq').2
    exact Int32.toInt_inj.mp (by omega)))
  obtain ⟨-, -, -, -, -, zk, zA⟩ := em_52 (v := 0) hem
  have s1i : ∀ k : Nat, k ≠ 52 → k ≠ 19 → k ≠ 38 → k ≠ 63 → σ1.i k = em.2.i k := fun k h1 h2 h3 h4 => by rw [rx.1.1, s0i k h1 h2, si k h3 h4]
  have s1e : ∀ k : Nat, k ≠ 32 → k ≠ 50 → k ≠ 51 → k ≠ 62 → σ1.a k = em.2.a k := fun k h1 h2 h3 h4 => by rw [s1a k h1 h2 h3 h4, sa.1]
  have s52 : σ1.i 52 = E := by
    rw [rx.1.1, hσd, hE]
    show p75.2.i 52 - 1 = s.i 52 - 1
    rw [p75i 52 (by decide), si 52 (by decide) (by decide), zk 52 (by decide), (qe_eq (qqe.trans qV0)).1.2.2.2.2.2]
  have s132 : σ1.a 32 = (RS.setA (RS.setI (RS.setI em.2 52 E) 38 o3') 32 (s.a 66 (ceT c1)).toNatClampNeg (em.2.i 20)).a 32 := by
    have z1 : p75.2.a 66 T = s.a 66 (ceT c1) := by rw [p75a.1, mf 66 (by decide) (by decide), hTc]
    have z2 : p75.2.i 20 = em.2.i 20 := by rw [p75i 20 (by decide), si 20 (by decide) (by decide)]
    rw [rx.1.2.2.2 32 (by decide) (by decide) (by decide), hσd, z1, z2]
    funext j
    by_cases z : j = (s.a 66 (ceT c1)).toNatClampNeg
    · rw [z, setA_at, setA_at]
    · rw [setA_ne z, setA_ne z]
      show p75.2.a 32 j = em.2.a 32 j
      rw [p75a.1, sa.1]
  have s5a : ∀ k : Nat, k ≠ 32 → (RS.setA (RS.setI (RS.setI em.2 52 E) 38 o3') 32 (s.a 66 (ceT c1)).toNatClampNeg (em.2.i 20)).a k = em.2.a k := fun k hk => setA_nk hk
  have du : D52 (RS.setA (RS.setI (RS.setI em.2 52 E) 38 o3') 32 (s.a 66 (ceT c1)).toNatClampNeg (em.2.i 20)) σ1 := by
    have q : ∀ k : Nat, k ≠ 32 → k ≠ 50 → k ≠ 51 → k ≠ 62 → σ1.a k = (RS.setA (RS.setI (RS.setI em.2 52 E) 38 o3') 32 (s.a 66 (ceT c1)).toNatClampNeg (em.2.i 20)).a k := fun k h1 h2 h3 h4 => by rw [s1e k h1 h2 h3 h4, s5a k h1]
    exact ⟨⟨s1i 20 (by decide) (by decide) (by decide) (by decide), s1i 24 (by decide) (by decide) (by decide) (by decide), s1i 29 (by decide) (by decide) (by decide) (by decide), s1i 33 (by decide) (by decide) (by decide) (by decide), s1i 42 (by decide) (by decide) (by decide) (by decide)⟩, q 21 (by decide) (by decide) (by decide) (by decide), q 22 (by decide) (by decide) (by decide) (by decide), q 23 (by decide) (by decide) (by decide) (by decide), q 25 (by decide) (by decide) (by decide) (by decide), q 26 (by decide) (by decide) (by decide) (by decide), q 27 (by decide) (by decide) (by decide) (by decide), q 28 (by decide) (by decide) (by decide) (by decide), q 30 (by decide) (by decide) (by decide) (by decide), q 31 (by decide) (by decide) (by decide) (by decide), s132, q 34 (by decide) (by decide) (by decide) (by decide), q 35 (by decide) (by decide) (by decide) (by decide), q 36 (by decide) (by decide) (by decide) (by decide), q 37 (by decide) (by decide) (by decide) (by decide)⟩
  obtain ⟨-, -, -, -, -, -, -, -, -, -, -, -, -, -, -, y59, -, -, -, -, -, -, -, -, -, -, -, -, -, -, -, z47, z48, z49, z50, z51, -, -, z60, z61, z62, -⟩ := qj_eq a2
  have eK : ∀ k : Nat, (k = 47 ∨ k = 48 ∨ k = 49 ∨ k = 50 ∨ k = 51 ∨ k = 60 ∨ k = 61 ∨ k = 62) → σ0.a k = s.a k := fun k hk => by
    rw [s0a k (by omega), sa.1, zA k (by omega)]
    rcases hk with z | z | z | z | z | z | z | z <;> rw [z]
    · rw [z47, waa 47 (by decide)]
    · rw [z48, waa 48 (by decide)]
    · rw [z49, waa 49 (by decide)]
    · rw [z50, waa 50 (by decide)]
    · rw [z51, waa 51 (by decide)]
    · rw [z60, waa 60 (by decide)]
    · rw [z61, waa 61 (by decide)]
    · rw [z62, waa 62 (by decide)]
  have e59 : em.2.i 59 = s.i 59 := by rw [zk 59 (by decide), y59, wi 59 (by decide) (by decide)]
  have e31 : σ1.a 31 = s.a 31 := by rw [s1e 31 (by decide) (by decide) (by decide) (by decide), em_31 hem, (qe_eq (qqe.trans qV0)).2.2.2.2.2.2.2.2.2.1]
  have l19' : σ1.i 19 = w := by rw [rx.1.1, s019, hw]
  have j5 := j4.cty (r6 := vw S s c1) (σ0 := σ0) (σ1 := σ1) (u := σ1) (x2 := S.i 36) (y := (s.a 66 (ceT c1)).toNatClampNeg) t6 e6 r0 (fun q' hq' tq' => by rw [f66]; exact (nd q' hq' tq').1) (fun q' hq' tq' => by rw [f72]; exact nd2 q' hq' tq') (fun q' hq' => vws.pl hC q' hq') ⟨by rw [f66]; exact cky.symm, by omega⟩ ⟨by rw [s0i 59 (by decide) (by decide), si 59 (by decide) (by decide)]; exact e59, fun k hk => eK k hk⟩ (by rw [f66, ← hTc]; exact rx) ⟨by rw [s1i 43 (by decide) (by decide) (by decide) (by decide)]; exact y5, by rw [s1i 59 (by decide) (by decide) (by decide) (by decide)]; exact e59, fun _ _ => rfl⟩ du ⟨by rw [rx.1.1, s0i 38 (by decide) (by decide), s38, ho3]; rfl, by rw [s1e 40 (by decide) (by decide) (by decide) (by decide), s5a 40 (by decide)], s52⟩ (by
    rw [s1i 11 (by decide) (by decide) (by decide) (by decide), zk 11 (by decide)]
    show (s.i 11).toInt ≤ (q.i 11).toInt
    omega) (by rw [l19']; exact Int.le_refl _) wts (fun _ => by
    rw [e31, g31]
    omega)
  have lo' : l2.2.o = A.2.o := by
    unfold f_X0_add at el2'
    cases el2'
    rfl
  have l944 : (CS.setI l2.2 38 v).i 44 = A.2.i 44 := by
    unfold f_X0_add at el2'
    cases el2'
    rfl
  rw [lo', eo1] at er2'
  have j6 := JRG.aim (W1 := []) (W2 := []) (K' := fun FC SF nm X0 ω j Z => (cTg SF (S.o c1.2.1 9)).toInt = ((pcC (CS.setI l2.2 38 v) : Nat) : Int) ∧ (((U.a 30 (s.a 66 (ceT c1)).toNatClampNeg = σ1.a 30 (s.a 66 (ceT c1)).toNatClampNeg ∧ U.a 31 (s.a 66 (ceT c1)).toNatClampNeg = σ1.a 31 (s.a 66 (ceT c1)).toNatClampNeg ∧ U.a 32 (s.a 66 (ceT c1)).toNatClampNeg = σ1.a 32 (s.a 66 (ceT c1)).toNatClampNeg) ∧ (0 ≤ ((vw S s c1).2.1 72).toInt → U.a 37 ((vw S s c1).2.1 72).toNatClampNeg = σ1.a 37 ((vw S s c1).2.1 72).toNatClampNeg) ∧ (FC (s.a 66 (ceT c1)).toNatClampNeg ↔ ¬ S.i 36 = 0)) ∧ ((PQX SF U (pcC S) (pcR s) ∧ SF.a 15 (pcC S) = 59 ∧ U.a 21 (pcR s) = 35) ∧ (pcC (CS.setI l2.2 38 v) = pcC S + 1 ∧ pcR (RS.setI (RS.setI em.2 52 E) 38 o3') = pcR s + 1) ∧ TYC SF U (GU FC SF U nm X0) (ω + j.t) j.c ∧ j.t ≤ j.l) ∧ KTY U (vw S s c1) g S s FC SF nm X0 ω j Z)) j5 (aim_sh (D := v) er2') (by rw [l944]; exact h44A) (by omega) (fun FC SF nm X0 ω j Z h k => ⟨h, k⟩)
  have rip : pcC (CS.setI r2.2 38 v) = pcC (CS.setI l2.2 38 v) := by
    unfold f_X0_aim at er2'
    cases er2'
    rfl
  have Rk : ∀ k : Nat, k ≠ 34 → k ≠ 36 → k ≠ 38 → k ≠ 50 → k ≠ 53 → R.2.i k = r2.2.i k := fun k h1 h2 h3 h4 h5 => by
    rw [hRr, ri k h1 h2 h3 h5, Xi k h4, hDr]
  have Rak : ∀ k : Nat, k ≠ 52 → R.2.a k = r2.2.a k := fun k hk => by
    rw [hRr, pp1]
    show Q.a k = r2.2.a k
    rw [f8 k hk, q7e, hDr]
    rfl
  have R38 : R.2.i 38 = v := by
    rw [hRr, pp1, ci_ne _ _ _ (by decide), ci_at, Q38, hvd]
  have R36 : R.2.i 36 = vv := by
    rw [hRr, pp1, ci_ne _ _ _ (by decide), ci_ne _ _ _ (by decide), ci_at]
  refine (j6.popv (R := R.2) (V := V2) (v := vv) (by omega) (Or.inl (by omega)) (by
    unfold pe
    rw [Rk 20 (by decide) (by decide) (by decide) (by decide) (by decide), Rk 23 (by decide) (by decide) (by decide) (by decide) (by decide), Rk 22 (by decide) (by decide) (by decide) (by decide) (by decide), R38, Rak 15 (by decide), Rak 16 (by decide), Rak 17 (by decide), Rak 19 (by decide)]
    rfl) (Rk 21 (by decide) (by decide) (by decide) (by decide) (by decide)) (Rk 44 (by decide) (by decide) (by decide) (by decide) (by decide)) R36 (Rak 48 (by decide)) (Rak 49 (by decide)) (by rw [Ve]; rfl) (by rw [Ve]; exact Int.le_refl _) (by rw [Ve]; rfl) (fun y hy gy => ?_) (by rw [Ve]; exact ⟨rfl, rfl, rfl, rfl, rfl, rfl, rfl, rfl⟩) (by rw [Ve]; rfl) (by rw [Ve]; exact Int.le_refl _) (by rw [Ve]; exact Int.le_refl _) (fun FC SF nm X0 ω j Z hω r12 hcc k cur => ?_)) crB
  · have g1 := hC.gis y hy gy
    have g2' := tp.2.1
    have g3' : V2.i 43 = s.i 43 := by
      rw [Ve]
      show σ1.i 43 = s.i 43
      rw [s1i 43 (by decide) (by decide) (by decide) (by decide)]
      exact y5
    rw [g3']
    omega
  · obtain ⟨ct, ⟨⟨u30, u31, u32⟩, u37, fcy⟩, ⟨⟨pq, s15, u21⟩, ⟨pe1, pe2⟩, tyc, tl⟩, ⟨⟨d2, d9, t3⟩, hci, hX⟩⟩ := k
    rw [rip, pe1] at cur
    have p12 := pq.1
    have p1s : pcR σ1 = pcR s + 1 := by
      rw [← pe2]
      unfold pcR
      rw [s1i 20 (by decide) (by decide) (by decide) (by decide)]
      rfl
    rw [p1s] at cur
    have q32 : (U.a 32 (s.a 66 (ceT c1)).toNatClampNeg).toInt = ((pcR s + 1 : Nat) : Int) := by
      rw [u32, s132, setA_at, ← p1s]
      unfold pcR
      rw [s1i 20 (by decide) (by decide) (by decide) (by decide)]
      have := x1.p20.1
      omega
    rw [pe1] at ct
    have jl : jlv (vw S s c1).v = 1264 := by rw [hr0]; rfl
    have eng : jen (fun _ => g) ω (vw S s c1) j.h j.l = [(3, j.h, (S.o c1.2.1 9).toNatClampNeg - 2, (s.a 66 (ceT c1)).toNatClampNeg, 0, 0, ω + j.l)] := en (fun _ => g) ω j.h j.l
    refine hX ⟨fun e he => ?_, fun h6 hf => ?_, fun z => absurd (hr0.symm.trans z) (by decide), fun _ => ?_, fun _ z hz => ?_⟩ (fun h1 => ?_)
    · rw [eng] at he
      rw [List.mem_singleton.mp he]
      exact ⟨fun z => absurd (show (3 : Nat) = 1 from z) (by decide), fun z => z.elim (fun z => absurd (show (3 : Nat) = 1 from z) (by decide)) (fun z => absurd (show (3 : Nat) = 2 from z) (by decide))⟩
    · rw [f66] at hf ⊢
      have h6' : S.o c1.2.1 6 = 1 := h6
      have a36 : ¬ S.i 36 = 0 := by
        rcases hf with z | z
        · exfalso
          rw [u31, e31, g31] at z
          omega
        · exact fcy.mp z
      have vv1 : vv = 1 := by
        rcases hcase with ⟨y1, y2⟩ | ⟨y1, y2⟩
        · exact absurd y1 a36
        · rw [y2]
          exact h6'
      exact ⟨pcC S + 1, pcR s + 1, ct, q32, (cur vv1).1⟩
    · refine ⟨by rw [f66, u31, e31]; exact g31, ?_⟩
      unfold khd
      rw [f72] at u37
      rw [f66, f72]
      by_cases z : (s.a 72 (ceT c1)).toInt < 0
      · rw [if_pos z, u30, s1a 30 (by decide) (by decide) (by decide) (by decide)]
        exact k30 z
      · rw [if_neg z, u37 (by omega), s1a 37 (by decide) (by decide) (by decide) (by decide)]
        exact k37 (by omega)
    · have z30 := g30 (Or.inr h216) z hz
      rw [f66] at z30 ⊢
      rw [u30, s1e 30 (by decide) (by decide) (by decide) (by decide), zA 30 (by omega), (qe_eq (qqe.trans qV0)).2.2.2.2.2.2.2.2.1]
      exact z30
    · have fy : FC (s.a 66 (ceT c1)).toNatClampNeg := fcy.mpr (by rw [h1]; decide)
      rw [eng] at hci
      rw [eng, jl]
      obtain ⟨e3, he3⟩ : ∃ e3 : Ent, e3 = (3, j.h, (S.o c1.2.1 9).toNatClampNeg - 2, (s.a 66 (ceT c1)).toNatClampNeg, 0, 0, ω + j.l) := ⟨_, rfl⟩
      have k3 : e3.k = 3 := by rw [he3]; rfl
      have h3 : e3.h = j.h := by rw [he3]; rfl
      have y3 : e3.y = (s.a 66 (ceT c1)).toNatClampNeg := by rw [he3]; rfl
      have u3' : e3.u = ω + j.l := by rw [he3]; rfl
      rw [← he3] at hci ⊢
      rw [← y3] at q32 fy
      have zz : ∀ g' : Nat, GU FC SF U nm X0 (pcC S) (pcR s) j.h (ω + (j.l + 1264) - pcC S) g' ([e3] ++ j.c) := fun g' => gi_VEnf (pq.hc hci) pq.2.1 ⟨s15, u21, by omega, e3, j.c, rfl, k3, h3, by rw [u3']; omega, q32, TYC.up (show ω + j.t ≤ e3.u by rw [u3']; omega) tyc, fy⟩
      exact ⟨zz 0, zz 1⟩
