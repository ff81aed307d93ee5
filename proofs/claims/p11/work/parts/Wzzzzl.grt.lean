/-! both readers: a group's head ends -/
def GRM (d : Int32) (c1 : CEL) (S : CS) (s : RS) (P : CS) (q : RS) : Prop := (ENV d P q ∧ tpI q = (ceT c1 : Int) ∧ FRB (ceT c1) s q) ∧ (q.a 64 (ceT c1) = 14 ∧ q.a 66 (ceT c1) = s.a 66 (ceT c1) ∧ q.a 71 (ceT c1) = s.a 71 (ceT c1) ∧ q.a 72 (ceT c1) = s.a 72 (ceT c1) ∧ (q.a 68 (ceT c1) = 0 ∨ q.a 68 (ceT c1) = 1) ∧ (q.a 68 (ceT c1) = 1 ↔ 0 ≤ (P.o c1.2.1 11).toInt) ∧ (s.i 24).toInt ≤ (q.a 67 (ceT c1)).toInt) ∧ (∀ k : Nat, (k = 2 ∨ k = 3 ∨ k = 8 ∨ k = 20 ∨ k = 29 ∨ k = 33 ∨ k = 38 ∨ k = 43 ∨ k = 56 ∨ k = 59) → q.i k = s.i k) ∧ (s.i 24).toInt ≤ (q.i 24).toInt ∧ (q.b 9 = s.b 9 ∧ q.b 39 = s.b 39 ∧ q.b 45 = s.b 45) ∧ (∀ k : Nat, (k = 1 ∨ k = 4 ∨ k = 30 ∨ k = 34 ∨ k = 37 ∨ k = 40 ∨ k = 41 ∨ k = 44 ∨ k = 46 ∨ k = 47 ∨ k = 48 ∨ k = 49 ∨ k = 50 ∨ k = 51 ∨ k = 57 ∨ k = 58 ∨ k = 60 ∨ k = 61 ∨ k = 62) → q.a k = s.a k) ∧ (∀ j : Nat, j ≠ (s.a 66 (ceT c1)).toNatClampNeg → q.a 22 j = s.a 22 j) ∧ (∃ w0 : Int32, (((s.a 67 (ceT c1)).toInt < 0 ∧ w0 = s.i 24) ∨ (0 ≤ (s.a 67 (ceT c1)).toInt ∧ w0 = s.a 67 (ceT c1))) ∧ ∀ j : Nat, (j : Int) < w0.toInt → q.a 25 j = s.a 25 j ∧ q.a 27 j = s.a 27 j ∧ q.a 28 j = s.a 28 j) ∧ (∀ M : List Nat, CSM S s (S.o c1.2.1 13).toInt (S.i 22).toInt M → chn s (s.a 22 (s.a 66 (ceT c1)).toNatClampNeg) M → FQL s (ceT c1) M → ∃ M' : List Nat, CSM P q (S.o c1.2.1 13).toInt (P.i 22).toInt M' ∧ chn q (q.a 22 (s.a 66 (ceT c1)).toNatClampNeg) M' ∧ FQL q (ceT c1) M' ∧ ∀ j ∈ M', j ∈ M ∨ (s.i 24).toInt ≤ (j : Int)) ∧ ((P.r = S.r ∧ P.ol = S.ol) ∧ (∀ a : Nat, a ≠ c1.2.1 → P.o a = S.o a) ∧ (∀ k : Nat, k ≠ 11 → P.o c1.2.1 k = S.o c1.2.1 k)) ∧ (P.i 38 = S.i 38 ∧ P.i 50 = S.i 50 ∧ P.i 53 = S.i 53 ∧ P.i 54 = S.i 54 ∧ P.i 55 = S.i 55 ∧ P.i 56 = S.i 56) ∧ ((P.i 21).toInt = (S.i 21).toInt + 1 ∧ (S.i 22).toInt ≤ (P.i 22).toInt ∧ (∀ i : Nat, (i : Int) < (S.i 22).toInt → P.a 18 i = S.a 18 i) ∧ P.a 52 = S.a 52) ∧ ((s.i 11).toInt + 2 ≤ (q.i 11).toInt ∧ phI s ≤ phI q ∧ (s.i 17).toInt ≤ (q.i 17).toInt ∧ q.i 19 = s.i 19)
set_option maxHeartbeats 4000000 in
theorem gr_tail {N : Nat} (hN : 1000 ≤ N) {E1 : CS → Option (Unit × CS)} {E2 : CS → Option (Int32 × CS)} {d : Int32} {B : CS} {b : RS} {t0 n : Nat} {L : List CEL} {x : Int} {S P : CS} {s q V U : RS} {c1 c : CEL} {x2 : Int32} {R : Unit × CS} {Aj : JBA} (hC : COR d B b t0 (c1 :: c :: L) x S s) (tp : TOP S s c1) (h218 : S.o c1.2.1 0 = 218) (bz : BAZ B b (c1 :: c :: L)) (hT : t0 ≤ ceT c1) (hG : GRM d c1 S s P q) (hz : GRZ (gPut (S.a 17) 1024 x2 (-1)) x2 c1.2.1 (ceT c1) S s P q) (e : f_X7_groupTurn_87 N E1 E2 P c1.2.1 x2 = some R) (hV : ((f_X12_need N q 58).bind fun p54 => (f_X12_then N p54.2 3 1).bind fun p56 => some p56) = some V) (g : f_X12_parse_10 N n V = some U) : (¬ R.2.i 32 = 0 ∧ ¬ U.i 15 = 0) ∨ ∃ (m : Nat) (u : RS), f_X12_parse_10 N m u = some U ∧ POPD d B b t0 c1 (c :: L) R.2 u ∧ JTR Aj U B b (c1 :: c :: L) S s (vws R.2 u (c1 :: c :: L)) R.2 u := by
  obtain ⟨⟨ev, tq, frq⟩, ⟨q64, q66, q71, q72, q68, q68i, q67⟩, qi, q24, qb, qa, q22, ⟨w0, hw0, ue⟩, cs, ⟨⟨er, eol⟩, eo, ek⟩, ⟨i38, i50, i53, i54, i55, i56⟩, ⟨i21, l22, e18, e52⟩, ⟨n11, nph, n17, n19⟩⟩ := hG
  have hv := hC.1
  obtain ⟨m1, e1, k1, m2, e2, k2, cst⟩ := STK.mem _ _ _ _ hC.2.1 c1 List.mem_cons_self
  obtain ⟨f1, f2, f3, f4, f5, f6⟩ := cst.2.2.1.2.2.2.2.2.2.2.2.2.2.2.1 h218
  obtain ⟨p54, h54, hV⟩ := hf_bind hV
  rw [ob_id] at hV
  unfold f_X7_groupTurn_87 at e
  obtain ⟨p21, e21, e⟩ := hf_bind e
  obtain ⟨p25, e25, e⟩ := hf_bind e
  obtain ⟨-, e⟩ := hf_ite e
  have hR : R.2 = CS.setI (CS.setO p25.2 c1.2.1 5 1) 36 1 := by rw [← Option.some.inj e]
  clear e
  rcases y_need hN ev (c := 58) (d := 58) (Or.inl ⟨by decide, by decide⟩) (by decide) (by decide) (by decide) e21 h54 with ⟨o1, o2, o3⟩ | ⟨o1, o2, o3, o4, o5, o6, o7, o8, o9, o10, o11, o12⟩
  · have z1 : ¬ p25.2.i 32 = 0 := by rw [kF_X0_aim N p21.2 _ p25 e25 o2]; exact o2
    refine Or.inl ⟨?_, u_flt g (krf_f_X12_then N _ 3 1 V hV o3)⟩
    rw [hR]
    exact z1
  refine Or.inr ?_
  have t54 : tpI p54.2 = (ceT c1 : Int) := qj_63 o4 tq
  obtain ⟨hVe, t99⟩ := r_then t54 hV
  have p17 : (p54.2.i 17).toInt = (q.i 17).toInt + 1 := by rw [o6, t17_up (N := N) ev]
  obtain ⟨ev25, ck25, -, -⟩ := y_aim o3 e25
  obtain ⟨⟨z1, z2, z3, z4⟩, ⟨z5, z6⟩, ⟨z7, z8, z9, z10, z11⟩, ⟨z12, z13, z14, z15, z16, z17, z18⟩⟩ := kd_all (kd_X0_aim N _ _ p25 e25)
  obtain ⟨-, -, -, -, -, -, -, -, -, -, j36, -, j38, j50, j53, j54, j55, j56, -, -, -, -, j52, jr, jo, jol, -, j21, jhk⟩ := pj_eq o5
  obtain ⟨X, hX⟩ : ∃ X, X = CS.setI (CS.setO p25.2 c1.2.1 5 1) 36 1 := ⟨_, rfl⟩
  have evS : ENV d (CS.setO p25.2 c1.2.1 5 1) p54.2 := ev25.so (by decide)
  have evX : ENV d X p54.2 := by
    rw [hX]
    refine evS.gx (fun j _ h36 _ _ _ _ _ => ci_ne _ _ _ h36) ⟨rfl, rfl, rfl⟩ rfl rfl (evS.ri.mv rfl rfl rfl rfl ⟨rfl, rfl, rfl⟩ evS.ri.2.2.2.2.2.2 (Int.le_refl _)) evS.sj evS.t21
  have Xi : ∀ k : Nat, k ≠ 36 → X.i k = p25.2.i k := fun k hk => by
    rw [hX]
    exact ci_ne _ _ _ hk
  have X36 : X.i 36 = 1 := by rw [hX, ci_at]
  have Xa : X.a = p25.2.a := by rw [hX]; rfl
  have Xr : X.r = S.r := by
    rw [hX]
    show p25.2.r = _
    rw [z1, jr, er]
  have Xol : X.ol = S.ol := by
    rw [hX]
    show p25.2.ol = _
    rw [z3, jol, eol]
  have po : p25.2.o = P.o := by rw [z2, jo]
  have Xo : ∀ a : Nat, a ≠ c1.2.1 → X.o a = S.o a := fun a ha => by
    rw [hX]
    show (CS.setO p25.2 c1.2.1 5 1).o a = _
    rw [so_ne ha, po, eo a ha]
  have X5 : X.o c1.2.1 5 = 1 := by
    rw [hX]
    show (CS.setO p25.2 c1.2.1 5 1).o c1.2.1 5 = _
    exact so_at
  have Xk : ∀ k : Nat, k ≠ 5 → X.o c1.2.1 k = P.o c1.2.1 k := fun k hk => by
    rw [hX]
    show (CS.setO p25.2 c1.2.1 5 1).o c1.2.1 k = _
    rw [so_nk hk, po]
  rw [← hX] at hR
  clear hX evS
  have X22 : X.i 22 = P.i 22 := by rw [Xi 22 (by decide), z8, o10]
  have X18 : X.a 18 = P.a 18 := by rw [Xa, z5, o11.1]
  obtain ⟨u, hu⟩ : ∃ y, y = TH p54.2 (ceT c1) 3 1 := ⟨_, rfl⟩
  have evu : ENV d X u := by rw [hu]; exact evX.th
  have tu : tpI u = ((ceT c1 + 1 : Nat) : Int) := by rw [hu]; exact TH.tp t54 (by omega)
  have fu : FRB (ceT c1) p54.2 u := by rw [hu]; exact TH.frb
  have u65 : u.a 65 (ceT c1) = 3 := by rw [hu]; exact TH.st
  have u64 : u.a 64 (ceT c1) = 14 := by
    rw [hu, TH.fk0 (Nat.le_refl _), (FRB.of o4 : FRB (ceT c1 + 1) q p54.2).all 64 (by decide) (by decide)]
    exact q64
  have u641 : u.a 64 (ceT c1 + 1) = 1 := by rw [hu]; exact TH.fk
  have u651 : u.a 65 (ceT c1 + 1) = 0 := by rw [hu]; exact TH.fs
  have uk : ∀ k : Nat, k ≠ 64 → k ≠ 65 → u.a k = p54.2.a k := fun k h1 h2 => by rw [hu, TH.loc h1 h2]
  have ui : ∀ k : Nat, k ≠ 63 → u.i k = p54.2.i k := fun k hk => by
    rw [hu]
    exact if_neg hk
  have ubx : u.b = p54.2.b := by rw [hu]; rfl
  rw [hVe, ← hu] at g
  clear hu hVe hV
  have uT : ∀ k : Nat, 64 ≤ k → k ≤ 73 → k ≠ 64 → k ≠ 65 → u.a k (ceT c1) = q.a k (ceT c1) := fun k h1 h2 h3 h4 => by
    rw [uk k h3 h4, (FRB.of o4 : FRB (ceT c1 + 1) q p54.2).all k h1 h2]
  have uq : ∀ k : Nat, (k = 1 ∨ k = 4 ∨ k = 25 ∨ k = 27 ∨ k = 28 ∨ k = 30 ∨ k = 34 ∨ k = 37 ∨ k = 40 ∨ k = 41 ∨ k = 44 ∨ k = 46 ∨ k = 47 ∨ k = 48 ∨ k = 49 ∨ k = 50 ∨ k = 51 ∨ k = 57 ∨ k = 58 ∨ k = 60 ∨ k = 61 ∨ k = 62) → u.a k = q.a k := fun k hk => by
    rw [uk k (by omega) (by omega), qj_a o4 k hk]
  have u22 : u.a 22 = q.a 22 := by rw [uk 22 (by decide) (by decide), o9]
  have w24 : u.i 24 = q.i 24 := by rw [ui 24 (by decide), (qj_eq o4).2.2.2.2.1]
  have uis : ∀ k : Nat, (k = 2 ∨ k = 3 ∨ k = 8 ∨ k = 20 ∨ k = 29 ∨ k = 33 ∨ k = 38 ∨ k = 43 ∨ k = 56 ∨ k = 59) → u.i k = s.i k := fun k hk => by
    rw [ui k (by omega), ← qi k hk]
    obtain ⟨A2, A3, A8, -, A24, A29, A33, A38, -, A43, -, -, -, -, A56, A59, -⟩ := qj_eq o4
    rcases hk with z | z | z | z | z | z | z | z | z | z <;> rw [z]
    · exact A2
    · exact A3
    · exact A8
    · exact o8
    · exact A29
    · exact A33
    · exact A38
    · exact A43
    · exact A56
    · exact A59
  have X0 : X.o c1.2.1 0 = 218 := by rw [Xk 0 (by decide), ek 0 (by decide)]; exact h218
  have X3 : X.o c1.2.1 3 = S.o c1.2.1 3 := by rw [Xk 3 (by decide), ek 3 (by decide)]
  have gi : (ceG c1 : Int) < (s.i 43).toInt := by
    have := tp.2.1
    have := nGo1 (show isGo (S.o c1.2.1 0) from Or.inr (Or.inl h218))
    omega
  have rfr : RFR X u c1.2.1 (ceT c1) (ceG c1) (ceW c1) := by
    refine RFR.m218 X0 ⟨u64, ?_, ?_, ?_, ?_, ?_⟩
    · rw [uT 72 (by decide) (by decide) (by decide) (by decide), q72]
      exact f2
    · rw [uT 71 (by decide) (by decide) (by decide) (by decide), q71, X3]
      exact f3
    · rw [uq 44 (by decide), qa 44 (by decide)]
      exact f4
    · rw [uT 68 (by decide) (by decide) (by decide) (by decide)]
      exact q68
    · rw [uT 68 (by decide) (by decide) (by decide) (by decide), Xk 11 (by decide)]
      exact q68i
  have k11 := hv.1.2.2.2.1.1
  have k11X := evu.1.2.2.2.1.1
  have u11 : (u.i 11).toInt = (p54.2.i 11).toInt := by rw [ui 11 (by decide)]
  have u17 : (u.i 17).toInt = (p54.2.i 17).toInt := by rw [ui 17 (by decide)]
  have phu : phI q ≤ phI u := by
    unfold phI
    rw [ui 20 (by decide), o8]
    omega
  have rt : RTE S X := by
    unfold RTE
    rw [Xi 21 (by decide), z7, j21, i21, Xi 54 (by decide), z16, j54, i54, Xi 55 (by decide), z17, j55, i55, k11, k11X]
    omega
  obtain ⟨fin, tpf⟩ := hC.grp (x' := -9) (w0 := w0) tp bz hT h218 evu ((frq.tr (FRB.of o4)).tr fu) (by rw [uT 66 (by decide) (by decide) (by decide) (by decide)]; exact q66) uis (by rw [w24]; exact q24) ⟨by rw [ubx, (qj_b o4).1]; exact qb.1, by rw [ubx, (qj_b o4).2.1]; exact qb.2.1, by rw [ubx, (qj_b o4).2.2]; exact qb.2.2⟩ (fun k hk => by rw [uq k (by omega)]; exact qa k hk) (fun j hj => by rw [u22]; exact q22 j hj) hw0 (fun j hj => by rw [uq 25 (by decide), uq 27 (by decide), uq 28 (by decide)]; exact ue j hj) (fun _ => by rw [uT 67 (by decide) (by decide) (by decide) (by decide)]; exact q67)
    Xr Xol Xo (fun k h5 h11 => by rw [Xk k h5]; exact ek k h11) ⟨by rw [Xi 38 (by decide), z11, j38, i38], by rw [Xi 50 (by decide), z14, j50, i50], by rw [Xi 53 (by decide), z15, j53, i53], by rw [Xi 54 (by decide), z16, j54, i54], by rw [Xi 55 (by decide), z17, j55, i55], by rw [Xi 56 (by decide), z18, j56, i56]⟩ (by rw [X22]; exact l22) (fun i hi => by rw [X18]; exact e18 i hi) (by rw [Xa, z6, j52, e52]) (fun M y1 y2 y3 => by
      obtain ⟨M', v1, v2, v3, v4⟩ := cs M y1 y2 y3
      refine ⟨M', ?_, ?_, ?_, v4⟩
      · unfold CSM at *
        rw [X22, X18, uq 28 (by decide), uq 25 (by decide)]
        exact v1
      · rw [u22]
        exact chn.up (by rw [w24]; exact Int.le_refl _) (fun j _ => by rw [uq 27 (by decide)]) M' _ v2
      · unfold FQL at *
        rw [uT 67 (by decide) (by decide) (by decide) (by decide)]
        exact v3) rfr rt ⟨by omega, by omega, by omega, by rw [ui 19 (by decide), o12, n19]⟩
  have wd : wid (X.o c1.2.1 0) = 2 := by rw [X0]; rfl
  have ix : ceT c1 + wid (X.o c1.2.1 0) - 1 = ceT c1 + 1 := by omega
  rw [hR]
  refine ⟨n, u, g, ⟨fin, tpf, Or.inl ⟨?_, ?_, ?_, ?_, Or.inl ⟨?_, X36⟩, fun _ => ⟨u65, X5⟩⟩, Or.inr X36⟩, fun _ jw => ?_⟩
  · rw [X0]
    unfold isOne
    decide
  · rw [X0]
    decide
  · rw [wd, tu]
    omega
  · rw [ix]
    exact u641
  · rw [ix]
    exact u651
  · -- the code
    obtain ⟨⟨g20, g15, g16, g23, g38, g48, g49⟩, ⟨gT, g21, g17⟩, g19, ⟨h240, h20, h24, h29, h33, h42, h52, h38, h43, h59⟩, ha, h22, he, h26, hch, h67, hcs⟩ := hz
    obtain ⟨p20, p15, p16, p17', p23, p38, p22, p19⟩ := pe_eq (ke_X1_expect N P 58 p21 e21)
    obtain ⟨⟨r20, r24, r29, r33, r42, r52⟩, r21, r22, r23, r25, r26, r27, r28, r30, r31, r32, r34, r35, r36, r37⟩ := qe_eq (kre_f_X12_need N q 58 p54 h54)
    obtain ⟨am1, am2⟩ := aim_eq e25
    have a25 : p25.2.a 17 = gPut (p21.2.a 17) 1024 x2 (p21.2.i 20) := by
      unfold f_X0_aim at e25
      cases e25
      rfl
    have xi : ∀ k : Nat, k ≠ 36 → X.i k = p21.2.i k := fun k hk => (Xi k hk).trans (am1 k)
    have xa : ∀ k : Nat, k ≠ 17 → X.a k = p21.2.a k := fun k hk => by rw [Xa]; exact am2 k hk
    obtain ⟨-, -, -, -, -, -, -, -, -, -, -, -, -, -, -, -, -, -, -, -, ja48, ja49, -, -, -, -, -, ji21, -⟩ := pj_eq o5
    have uak : ∀ k : Nat, k ≠ 64 → k ≠ 65 → p54.2.a k = q.a k → u.a k = q.a k := fun k h1 h2 h3 => (uk k h1 h2).trans h3
    have uik : ∀ k : Nat, k ≠ 63 → p54.2.i k = q.i k → u.i k = q.i k := fun k h1 h2 => (ui k h1).trans h2
    have u26 : u.a 26 = q.a 26 := uak 26 (by decide) (by decide) r26
    have u67' : u.a 67 (ceT c1) = q.a 67 (ceT c1) := uT 67 (by decide) (by decide) (by decide) (by decide)
    have zz : GRZ (gPut (gPut (S.a 17) 1024 x2 (-1)) 1024 x2 (S.i 20)) x2 c1.2.1 (ceT c1) S s X u := by
      refine ⟨⟨by rw [xi 20 (by decide), p20, g20], by rw [xa 15 (by decide), p15, g15], by rw [xa 16 (by decide), p16, g16], by rw [xi 23 (by decide), p23, g23], by rw [xi 38 (by decide), p38, g38], by rw [xa 48 (by decide), ja48, g48], by rw [xa 49 (by decide), ja49, g49]⟩, ⟨gT, by rw [xi 21 (by decide), ji21, g21], by rw [Xa, a25, p17', p20, g17, g20]⟩, fun k hk => by rw [xa 19 (by decide), p19]; exact g19 k hk, ⟨h240, by rw [uik 20 (by decide) r20, h20], by rw [w24]; exact h24, by rw [uik 29 (by decide) r29, h29], by rw [uik 33 (by decide) r33, h33], by rw [uik 42 (by decide) r42, h42], by rw [uik 52 (by decide) r52, h52], uis 38 (by decide), uis 43 (by decide), uis 59 (by decide)⟩, fun k hk => ?_, fun j hj => by rw [u22]; exact h22 j hj, fun j hj => by rw [uq 25 (by decide), u26, uq 27 (by decide), uq 28 (by decide)]; exact he j hj, by rw [u26]; exact h26, fun M hM => by
        rw [u22]
        exact chn.up (by rw [w24]; exact Int.le_refl _) (fun j _ => by rw [uq 27 (by decide)]) _ _ (hch M hM), by rw [u67']; exact h67, ?_⟩
      · rw [← ha k hk]
        rcases hk with z | z | z | z | z | z | z | z | z | z | z | z | z | z | z | z | z | z <;> rw [z]
        · exact uak 21 (by decide) (by decide) r21
        · exact uak 23 (by decide) (by decide) r23
        · exact uak 30 (by decide) (by decide) r30
        · exact uak 31 (by decide) (by decide) r31
        · exact uak 32 (by decide) (by decide) r32
        · exact uak 34 (by decide) (by decide) r34
        · exact uak 35 (by decide) (by decide) r35
        · exact uak 36 (by decide) (by decide) r36
        · exact uak 37 (by decide) (by decide) r37
        · exact uq 40 (by decide)
        · exact uq 47 (by decide)
        · exact uq 48 (by decide)
        · exact uq 49 (by decide)
        · exact uq 50 (by decide)
        · exact uq 51 (by decide)
        · exact uq 60 (by decide)
        · exact uq 61 (by decide)
        · exact uq 62 (by decide)
      · rw [X22, xa 19 (by decide), p19, uq 28 (by decide), Xk 11 (by decide)]
        exact hcs
    obtain ⟨m', e', k', c1s, -, stl⟩ := id hC.2.1
    obtain ⟨em', -, a66b, M, y1, y2, y3, y4⟩ := c1s.2.2.2.2.1 h218
    obtain ⟨-, b30, b0, col, hc⟩ := id hC.2.2.2.2.2.2.2.2.2.2
    have h5 := hc.2.2.2.2.1 c1 List.mem_cons_self h218
    have obx := (hC.2.2.2.2.2.2.2.1.2.2.2.2 c1 List.mem_cons_self).2 h218
    obtain ⟨wz, hwz⟩ := b19_up hC
    have hDs := hC.dropS h218 hwz
    have fsu : FRB (ceT c1) s u := (frq.tr (FRB.of o4)).tr fu
    have j := JRW.grp jw h218 (fun k h5 h11 => by rw [Xk k h5]; exact ek k h11) (by rw [uT 66 (by decide) (by decide) (by decide) (by decide)]; exact q66) zz (by
      rw [hv.p44.1]
      exact (i11_hi hv).2) (by
      rw [hv.p44.1, evu.p44.1]
      omega) (vws.pl hC) ⟨h5.1, by omega, obx⟩ ⟨M, y2, by rw [← em']; exact y1.2.1.2.1⟩ (fun y hy y8 M' hM' i hi => by
      obtain ⟨z, hz, e9⟩ := List.mem_map.mp hy
      rw [← e9] at y8 hM'
      have e66' : (vw S s z).2.1 66 = s.a 66 (ceT z) := (vw_at (k := 66) ⟨by decide, by decide⟩)
      rw [e66'] at hM'
      have z1 := (STK.nd8 (c :: L) _ _ _ stl z hz y8 M' hM').2.1 i hi
      rcases lst_end M with w | ⟨L0, l, w⟩
      · have := y3.1 w
        omega
      · have z2 := y3.2 L0 l w
        have z3 := (y4 l (by rw [w]; exact List.mem_append_right _ List.mem_cons_self)).1
        omega) (hv.p20.1) X36 (by omega) (by rw [ui 19 (by decide), o12, n19]; exact Int.le_refl _)
    show JRW Aj U B b (vw X u c1 :: vws X u (c :: L)) X u
    rw [clo_veq hDs.1 tp hDs.2.2.2.1 (fun j _ => by rw [uq 40 (by decide), qa 40 (by decide)]) (fun y hy => by
      show X.o y.2.1 = S.o y.2.1
      exact Xo _ (hC.adr y hy)) (fun k t h1 h2 h3 => fsu.fld k t h1 h2 h3)]
    exact j
