/-! both readers: try, its words -/
/-- the row a is pushed, not yet paid; both stand in the words before the block -/
def TRW (d : Int32) (T a m : Nat) (P pp : CS) (s1 : RS) (p f : Int) (wh wr : Int32) (R : CS) (q : RS) : Prop :=
  ENW d R q ∧ tpI q = (T : Int) ∧ PSQ P R a m 213 (P.i 50) ∧
  (R.r = pp.r ∧ R.L = pp.L ∧ R.k = pp.k ∧ R.hs = pp.hs ∧ R.i 53 = pp.i 53 ∧ (∀ b : Nat, R.o b 0 = pp.o b 0) ∧ R.ol = pp.ol) ∧
  (R.o a 6 = 0 ∧ R.o a 8 = wh ∧ R.o a 12 = 0 ∧ (R.i 38).toInt = (P.i 38).toInt + 1 ∧ (R.i 21).toInt = (P.i 21).toInt + 3 ∧ R.i 34 = P.i 34) ∧
  (FRB T s1 q ∧ TBR s1 q ∧ CDK (s1.i 20).toInt s1 q) ∧ (q.i 2 = s1.i 2 ∧ q.i 3 = s1.i 3 ∧ q.i 8 = s1.i 8 ∧ q.i 38 = s1.i 38 ∧ q.i 43 = s1.i 43 ∧ q.i 56 = s1.i 56 ∧ q.a 1 = s1.a 1 ∧ q.a 4 = s1.a 4 ∧ q.b 9 = s1.b 9) ∧
  ((s1.i 11).toInt + p ≤ (q.i 11).toInt ∧ phI s1 + f ≤ phI q ∧ (s1.i 17).toInt ≤ (q.i 17).toInt ∧ q.i 19 = s1.i 19) ∧
  (q.i 59 = s1.i 59 ∧ q.a 60 = s1.a 60 ∧ q.a 61 = s1.a 61 ∧ q.a 62 = s1.a 62) ∧ plI P + 3 ≤ eI R ∧
  (q.a 64 T = 15 ∧ q.a 66 T = s1.i 29 ∧ q.a 67 T = wr) ∧ ((q.i 29).toInt = (s1.i 29).toInt + 1 ∧ q.a 30 (s1.i 29).toNatClampNeg = -1)
theorem TRW.nu {d : Int32} {T a m : Nat} {P pp R : CS} {s1 q : RS} {p f p' f' : Int} {wh wr : Int32} (h : TRW d T a m P pp s1 p f wh wr R q) (hp : p' ≤ p) (hf : f' ≤ f) : TRW d T a m P pp s1 p' f' wh wr R q := by
  obtain ⟨h1, h2, h3, h4, h5, h6, h7, ⟨n1, n2, n3, n4⟩, h9, h10, h11, h12⟩ := h
  exact ⟨h1, h2, h3, h4, h5, h6, h7, ⟨by omega, by omega, n3, n4⟩, h9, h10, h11, h12⟩
/-- the class alone: an instruction -/
theorem TRW.kd {d : Int32} {T a m : Nat} {P pp R X : CS} {s1 q : RS} {p f : Int} {wh wr : Int32} (h : TRW d T a m P pp s1 p f wh wr R q) (e : pj2 X = pj2 R) : TRW d T a m P pp s1 p f wh wr X q := by
  obtain ⟨h1, h2, h3, ⟨r1, r2, r3, r4, r5, r6, r7⟩, ⟨o6, o8, o12, i38, i21, i34⟩, h6, h7, h8, h9, h10, h11, h12⟩ := h
  have kp := pj2_eq e
  obtain ⟨-, -, -, -, -, -, -, -, -, -, -, -, y38, -, y53, -, -, -, -, -, -, -, -, yr, yo, yol, -, y21, ⟨yh, yL, yk⟩⟩ := pj_eq kp.1
  refine ⟨h1.kd e, h2, h3.kd (by have := h3.2.2.2.1.1; omega) e, ⟨by rw [yr]; exact r1, by rw [yL]; exact r2, by rw [yk]; exact r3, by rw [yh]; exact r4, by rw [y53]; exact r5, fun b => by rw [yo]; exact r6 b, by rw [yol]; exact r7⟩, ⟨by rw [yo]; exact o6, by rw [yo]; exact o8, by rw [yo]; exact o12, by rw [y38]; exact i38, by rw [y21]; exact i21, by rw [kp.2.2.2.1]; exact i34⟩, h6, h7, h8, h9, ?_, h11, h12⟩
  have e44 : eI X = eI R := by
    unfold eI plI
    rw [kp.2.2.2.2.2.2.2.1, kp.2.2.2.2.2.2.2.2.1]
  rw [e44]
  exact h10
/-- one token on in both -/
theorem TRW.nx {N : Nat} (hN : 1000 ≤ N) {d : Int32} {T a m : Nat} {P pp R : CS} {s1 q u : RS} {p f : Int} {wh wr : Int32} {A : Unit × CS} (h : TRW d T a m P pp s1 p f wh wr R q) (nz : ¬ R.i 43 = 0) (e : f_X9_advance N R = some A) (g : f_X12_next N q = some u) : TRW d T a m P pp s1 (p + 1) (f + 3) wh wr A.2 u := by
  obtain ⟨h1, h2, h3, ⟨r1, r2, r3, r4, r5, r6, r7⟩, ⟨o6, o8, o12, i38, i21, i34⟩, ⟨f1, f2, f3⟩, ⟨c1, c2, c3, c4, c5, c6, c7, c8, c9⟩, ⟨n1, n2, n3, n4⟩, ⟨p1, p2, p3, p4⟩, h10, ⟨k64, k66, k67⟩, ⟨t1, t2⟩⟩ := h
  obtain ⟨v1, v2, v3, v4, v5, v6, v7, v8, v9, v10, v11, v12⟩ := h1.adv hN nz e g
  obtain ⟨-, -, -, -, -, -, -, -, -, -, -, -, y38, -, y53, y54, y55, -, -, -, -, -, y52, yr, yo, yol, -, y21, ⟨yh, yL, yk⟩⟩ := pj_eq v3
  obtain ⟨x2, x3, x8, x18, x24, x29, x33, x38, x42, x43, x52, x53, x54, x55, x56, x59, x63, x75, xa1, xa4, xa25, xa26, xa27, xa28, xa30, xa34, xa37, xa40, xa41, xa44, xa46, xa47, xa48, xa49, xa50, xa51, xa57, xa58, xa60, xa61, xa62, xa64, xa65, xa66, xa67, xa68, xa69, xa70, xa71, xa72, xa73, xb9, xb39, xb45, xb74⟩ := qj_eq v2
  have tb : TBK q u := TBK.of v2 (by rw [v6]; exact Int.le_refl _) (fun j _ => by rw [v7])
  have gn := ((ADV.gain h1.1.2.2.2.2.2.2.1 v11).2.1 nz).2
  have a34 : A.2.i 34 = R.i 34 := v11.1.2 34 (by decide) (by decide) (by decide) (by decide)
  have n0 : 0 ≤ (P.i 53).toInt := by
    have := h3.2.2.2.1.1
    omega
  refine ⟨v1, qj_63 v2 h2, h3.cx n0 (CKX.of v3 v8 v9) y54 y55 y52, ⟨by rw [yr]; exact r1, by rw [yL]; exact r2, by rw [yk]; exact r3, by rw [yh]; exact r4, by rw [y53]; exact r5, fun b => by rw [yo]; exact r6 b, by rw [yol]; exact r7⟩, ⟨by rw [yo]; exact o6, by rw [yo]; exact o8, by rw [yo]; exact o12, by rw [y38]; exact i38, by rw [y21]; exact i21, by rw [a34]; exact i34⟩, ⟨f1.tr (FRB.of v2), f2.tr tb.1.r (by rw [c4]; exact Int.le_refl _) (by rw [c5]; exact Int.le_refl _) (by rw [c6]; exact Int.le_refl _), f3.tr (tb.2.wk f3.1)⟩, ⟨x2.trans c1, x3.trans c2, x8.trans c3, x38.trans c4, x43.trans c5, x56.trans c6, xa1.trans c7, xa4.trans c8, xb9.trans c9⟩, ⟨by omega, ?_, by omega, by rw [v10]; exact n4⟩, ⟨x59.trans p1, xa60.trans p2, xa61.trans p3, xa62.trans p4⟩, by omega, ⟨by rw [xa64]; exact k64, by rw [xa66]; exact k66, by rw [xa67]; exact k67⟩, ⟨by rw [x29]; exact t1, by rw [xa30]; exact t2⟩⟩
  have ph : phI u = phI q + 3 := by
    unfold phI
    rw [v6, v12]
    omega
  omega
theorem TRW.em {N : Nat} {d : Int32} {T a m : Nat} {P pp R : CS} {s1 q : RS} {p f : Int} {wh wr o x : Int32} {V : Int32 × RS} (h : TRW d T a m P pp s1 p f wh wr R q) (hp : 1 ≤ phI q) (g : f_X12_emit N q o x = some V) : TRW d T a m P pp s1 p (f - 1) wh wr R V.2 ∧ V.2.i 10 = q.i 10 := by
  obtain ⟨h1, h2, h3, h4, h5, ⟨f1, f2, f3⟩, ⟨c1, c2, c3, c4, c5, c6, c7, c8, c9⟩, ⟨n1, n2, n3, n4⟩, ⟨p1, p2, p3, p4⟩, h10, ⟨k64, k66, k67⟩, ⟨t1, t2⟩⟩ := h
  obtain ⟨v1, v2, v3, v4, v5, v6⟩ := h1.em hp g
  obtain ⟨kq, y10, y11, y12, y14, y15, y16, y17, y19, yl⟩ := qj2_eq v3
  obtain ⟨x2, x3, x8, x18, x24, x29, x33, x38, x42, x43, x52, x53, x54, x55, x56, x59, x63, x75, xa1, xa4, xa25, xa26, xa27, xa28, xa30, xa34, xa37, xa40, xa41, xa44, xa46, xa47, xa48, xa49, xa50, xa51, xa57, xa58, xa60, xa61, xa62, xa64, xa65, xa66, xa67, xa68, xa69, xa70, xa71, xa72, xa73, xb9, xb39, xb45, xb74⟩ := qj_eq kq
  exact ⟨⟨v1, qj_63 kq h2, h3, h4, h5, ⟨f1.tr (FRB.of kq), f2.tr v2.1.r (by rw [c4]; exact Int.le_refl _) (by rw [c5]; exact Int.le_refl _) (by rw [c6]; exact Int.le_refl _), f3.tr (v2.2.wk f3.1)⟩, ⟨x2.trans c1, x3.trans c2, x8.trans c3, x38.trans c4, x43.trans c5, x56.trans c6, xa1.trans c7, xa4.trans c8, xb9.trans c9⟩, ⟨by rw [y11]; exact n1, by omega, by rw [y17]; exact n3, by rw [y19]; exact n4⟩, ⟨x59.trans p1, xa60.trans p2, xa61.trans p3, xa62.trans p4⟩, h10, ⟨by rw [xa64]; exact k64, by rw [xa66]; exact k66, by rw [xa67]; exact k67⟩, ⟨by rw [x29]; exact t1, by rw [xa30]; exact t2⟩⟩, y10⟩
/-- the class's flag -/
theorem TRW.s8 {d : Int32} {T a m : Nat} {P pp R : CS} {s1 q : RS} {p f : Int} {wh wr v : Int32} (h : TRW d T a m P pp s1 p f wh wr R q) : TRW d T a m P pp s1 p f v wr (CS.setO R a 8 v) q := by
  obtain ⟨h1, h2, h3, ⟨r1, r2, r3, r4, r5, r6, r7⟩, ⟨o6, o8, o12, i38, i21, i34⟩, h6, h7, h8, h9, h10, h11, h12⟩ := h
  exact ⟨h1.gx (fun _ _ _ _ _ _ _ _ => rfl) ⟨rfl, rfl, rfl⟩ rfl rfl h1.sj h1.t21, h2, h3.so (k := 8) (w := v) ⟨by decide, by decide, by decide, by decide⟩, ⟨r1, r2, r3, r4, r5, fun b => (so_nk (by decide)).trans (r6 b), r7⟩, ⟨(so_nk (by decide)).trans o6, so_at, (so_nk (by decide)).trans o12, i38, i21, i34⟩, h6, h7, h8, h9, h10, h11, h12⟩
/-- what the code of a try's head is: the row's targets, what waits, depth and count as they were before it -/
def TRJ (A : JBA) (U : RS) (B : CS) (b : RS) (V0 : List RVW) (s0 : RS) (W : List RVW) (a x y z : Nat) (m : Int) (D E x9 x10 x11 : Int32) (R : CS) (q : RS) : Prop := JRG A U B b V0 s0 W (TRK U x y z (pcC R) (pcR q)) 0 1 (CS.setI R 38 D) (RS.setI q 52 E) ∧ (s0.i 11).toInt + 3 * (z : Int) + m ≤ (q.i 11).toInt ∧ q.i 52 = E + 1 ∧ R.o a 9 = x9 ∧ R.o a 10 = x10 ∧ (R.o a 11 = x11 ∧ R.o a 2 = D ∧ (q.a 31 y).toInt < 0)
theorem JRG.shn {A : JBA} {U : RS} {B : CS} {b : RS} {V0 : List RVW} {s0 : RS} {W : List RVW} {K : JKT} {a e : Int} {N : Nat} (hN : 1000 ≤ N) {d D E : Int32} {R : CS} {q u : RS} {P : Unit × CS} (m : Int) (h : JRG A U B b V0 s0 W K a e (CS.setI R 38 D) (RS.setI q 52 E)) (ew : ENW d R q) (nz : ¬ R.i 43 = 0) (e1 : f_X9_advance N R = some P) (g : f_X12_next N q = some u) (l : (R.i 44).toInt + m ≤ (P.2.i 44).toInt) : JRG A U B b V0 s0 W K (a - m) (e - m) (CS.setI P.2 38 D) (RS.setI u 52 E) := by
  obtain ⟨v1, v2, v3, -⟩ := ew.adv hN nz e1 g
  obtain ⟨-, -, -, -, -, -, -, -, -, -, -, -, -, i50, -, -, -, -, -, -, a48, a49, -, -, -, -, -, i21, -⟩ := pj_eq v3
  obtain ⟨x2, x3, x8, x18, x24, x29, x33, x38, x42, x43, x52, x53, x54, x55, x56, x59, x63, x75, xa1, xa4, xa25, xa26, xa27, xa28, xa30, xa34, xa37, xa40, -⟩ := qj_eq v2
  exact (h.cek (R := CS.setI P.2 38 D) m (pe.s38 (ke_X9_advance N R P e1)) i21 a48 a49 i50 l).se (u := RS.setI u 52 E) (qe.s52 (kre_f_X12_next N q u g)) ⟨x38, fun j _ => congrFun xa40 j⟩
/-- a token on; m: bytes -/
theorem em_31 {N : Nat} {s : RS} {o x : Int32} {V : Int32 × RS} (hz : f_X12_emit N s o x = some V) : V.2.a 31 = s.a 31 := by
  unfold f_X12_emit f_X12_emit_21 at hz
  by_cases c : (3000 : Int32) ≤ s.i 20
  · rw [if_pos c] at hz
    obtain ⟨-, hz⟩ := hf_ite hz
    cases hz
    rfl
  · rw [if_neg c] at hz
    obtain ⟨-, hz⟩ := hf_ite hz
    cases hz
    rfl
theorem TRJ.nx {A : JBA} {U : RS} {B : CS} {b : RS} {V0 : List RVW} {s0 : RS} {W : List RVW} {a x y z N : Nat} (hN : 1000 ≤ N) {m k : Int} {d D E x9 x10 x11 : Int32} {R : CS} {q u : RS} {P : Unit × CS} (h : TRJ A U B b V0 s0 W a x y z m D E x9 x10 x11 R q) (ew : ENW d R q) (nz : ¬ R.i 43 = 0) (e1 : f_X9_advance N R = some P) (g : f_X12_next N q = some u) (k0 : 0 ≤ k) (l : (R.i 44).toInt + k ≤ (P.2.i 44).toInt) : TRJ A U B b V0 s0 W a x y z (m + k) D E x9 x10 x11 P.2 u := by
  obtain ⟨h1, h2, h3, h4, h5, h6⟩ := h
  obtain ⟨v1, v2, v3, -⟩ := ew.adv hN nz e1 g
  have yo := (pj_eq v3).2.2.2.2.2.2.2.2.2.2.2.2.2.2.2.2.2.2.2.2.2.2.2.2.1
  have x52 := (qj_eq v2).2.2.2.2.2.2.2.2.2.2.1
  have z1 := ew.1.2.2.2.1.1
  have z2 := v1.1.2.2.2.1.1
  have pc : pcC P.2 = pcC R := pcC.pe (ke_X9_advance N R P e1)
  have pr : pcR u = pcR q := pcR.qe (kre_f_X12_next N q u g)
  refine ⟨?_, ?_, by rw [x52]; exact h3, by rw [yo]; exact h4, by rw [yo]; exact h5, by rw [yo, (qe_eq (kre_f_X12_next N q u g)).2.2.2.2.2.2.2.2.2.1]; exact h6⟩
  · rw [pc, pr]
    exact (h1.shn hN k ew nz e1 g l).imp (by omega) (by omega) (fun _ _ _ _ _ _ _ _ _ _ _ _ _ k => k)
  · rw [z1, z2] at l
    omega
/-- one resource, both at it -/
theorem tr_one {N : Nat} (hN : 1000 ≤ N) {d : Int32} {T a m : Nat} {P pp R : CS} {s1 q V : RS} {wh wr x1 : Int32} {W : Unit × CS} {K : RS → Int32 → Int32 → Option RS} {Q : Prop} {Aj : JBA} {U : RS} {B : CS} {b : RS} {V0 : List RVW} {s0 : RS} {Wr : List RVW} {x y : Nat} {D E x9 x10 x11 : Int32} (l19 : (s0.i 19).toInt ≤ 20) (hJ : Q → ∃ z : Nat, TRJ Aj U B b V0 s0 Wr a x y z 1 D E x9 x10 x11 R q) (hK : ∀ (y : RS) (v : Int32), ¬ y.i 15 = 0 → K y x1 v = some V → ¬ V.i 15 = 0) (hph : 0 ≤ phI s1 + 1) (h : TRW d T a m P pp s1 3 3 wh wr R q) (e : f_X7_openResource N R = some W) (g : (if (q.i 10) = 4 then (f_X12_can N q 1).bind fun p30 => (if p30.1 = 0 then (if (p30.2.i 15) = 0 then (if (p30.2.i 10) = 44 then K p30.2 x1 1 else K p30.2 x1 0) else K p30.2 x1 0) else (f_X12_emit N p30.2 32 (p30.2.i 14)).bind fun p35 => (f_X12_next N p35.2).bind fun p37 => (if (p37.i 15) = 0 then (if (p37.i 10) = 44 then K p37 x1 1 else K p37 x1 0) else K p37 x1 0)) else (f_X12_can N q 0).bind fun p19 => (if p19.1 = 0 then (if (p19.2.i 15) = 0 then (if (p19.2.i 10) = 44 then K p19.2 x1 1 else K p19.2 x1 0) else K p19.2 x1 0) else (f_X12_emit N p19.2 32 (p19.2.i 14)).bind fun p24 => (f_X12_next N p24.2).bind fun p26 => (if (p26.i 15) = 0 then (if (p26.i 10) = 44 then K p26 x1 1 else K p26 x1 0) else K p26 x1 0))) = some V) : (¬ W.2.i 32 = 0 ∧ ¬ V.i 15 = 0) ∨ ∃ u : RS, TRW d T a m P pp s1 3 3 wh wr W.2 u ∧ (q.i 11).toInt + 1 ≤ (u.i 11).toInt ∧ (Q → ∃ z : Nat, TRJ Aj U B b V0 s0 Wr a x y z 0 D E x9 x10 x11 W.2 u) ∧ ((u.i 10 = 44 ∧ K u x1 1 = some V) ∨ (¬ u.i 10 = 44 ∧ K u x1 0 = some V)) := by
  have i4 := h.1.1.2.2.2.1.is (c := 4) (d := 4) (Or.inl ⟨by decide, by decide⟩) (by decide)
  unfold f_X7_openResource at e
  by_cases c : R.i 43 = 4
  · have k := i4.mp c
    rw [e_fnd1 c, ob_some, if_neg n10] at e
    obtain ⟨ad, ead, e⟩ := hf_bind e
    obtain ⟨av, eav, e⟩ := hf_bind e
    cases e
    rw [if_pos k, y_can1 h.1.1.2.1 (by rw [k]; decide), ob_some, if_neg n10] at g
    obtain ⟨em, hem, g⟩ := hf_bind g
    obtain ⟨nx, hnx, g⟩ := hf_bind g
    have ph := h.2.2.2.2.2.2.2.1.2.1
    obtain ⟨h2, -⟩ := (h.kd (kd_X0_add N R 55 _ ad ead)).em (by omega) hem
    have z43 : ad.2.i 43 = 4 := (pj2_eq (kd_X0_add N R 55 _ ad ead)).2.2.2.2.2.2.2.1.trans c
    have h3 := h2.nx hN (by rw [z43]; decide) eav hnx
    have l11 : (q.i 11).toInt + 1 ≤ (nx.i 11).toInt := by
      obtain ⟨-, -, -, -, z, -⟩ := h2.1.adv hN (by rw [z43]; decide) eav hnx
      obtain ⟨-, -, z3, -, -, -⟩ := h.1.em (by omega) hem
      have z4 := (qj2_eq z3).2.2.1
      rw [z4] at z
      exact z
    rw [if_pos h3.1.1.2.1] at g
    have kk := pj2_eq (kd_X0_add N R 55 _ ad ead)
    refine Or.inr ⟨nx, h3.nu (by omega) (by omega), l11, fun hq => ?_, ?_⟩
    · obtain ⟨z, j1, j2, j3, j4, j5, j6⟩ := hJ hq
      have q20 := (i20_hw h.1).1
      have q11 := (i20_hw h.1).2
      have g44 := h.1.1.2.2.2.1.1
      have v45 : R.i 45 = q.i 14 := h.1.1.2.2.2.1.2.2.2.2.2 (Or.inr (Or.inr (Or.inl c)))
      have e11 : em.2.i 11 = q.i 11 := (qj2_eq (h.1.em (by omega) hem).2.2.1).2.2.1
      have e52 : em.2.i 52 = q.i 52 := (qj_eq (qj2_eq (h.1.em (by omega) hem).2.2.1).1).2.2.2.2.2.2.2.2.2.2.1
      have y1 := JRG.opr j1 (add_sh (D := D) ead) (show (R.i 44).toInt ≤ 900 by rw [g44]; exact q11.2) (by omega) (em_sh (E := E) hem) q20 v45 l19 (by omega)
      have aol : ad.2.o = R.o := (pj_eq kk.1).2.2.2.2.2.2.2.2.2.2.2.2.2.2.2.2.2.2.2.2.2.2.2.2.1
      have adv := (h2.1.adv hN (by rw [z43]; decide) eav hnx).2.2.2.2.2.2.2.2.2.2.1
      have gain := (ADV.gain h2.1.1.2.2.2.2.2.2.1 adv).2.2.2.2.1 (Or.inr (by rw [z43]; decide))
      obtain ⟨v1, v2, v3, -⟩ := h2.1.adv hN (by rw [z43]; decide) eav hnx
      have yo := (pj_eq v3).2.2.2.2.2.2.2.2.2.2.2.2.2.2.2.2.2.2.2.2.2.2.2.2.1
      have x52 := (qj_eq v2).2.2.2.2.2.2.2.2.2.2.1
      have pc : pcC av.2 = pcC ad.2 := pcC.pe (ke_X9_advance N ad.2 av eav)
      have pr : pcR nx = pcR em.2 := pcR.qe (kre_f_X12_next N em.2 nx hnx)
      have y2 := JRG.shn hN (R := ad.2) (q := em.2) 2 y1 h2.1 (by rw [z43]; decide) eav hnx gain.2.1
      have g1 : (em.2.i 11).toInt + 2 ≤ (nx.i 11).toInt := by
        have g2 := gain.2.1
        unfold plI at g2
        rw [h2.1.1.2.2.2.1.1, v1.1.2.2.2.1.1] at g2
        exact g2
      rw [e11] at g1
      refine ⟨z + 1, ?_, by omega, by rw [x52, e52]; exact j3, by rw [yo, aol]; exact j4, by rw [yo, aol]; exact j5, by rw [yo, aol, (qe_eq (kre_f_X12_next N em.2 nx hnx)).2.2.2.2.2.2.2.2.2.1, em_31 hem]; exact j6⟩
      rw [pc, pr]
      exact y2.imp (by omega) (by omega) (fun _ _ _ _ _ _ _ _ _ _ _ _ _ k => k)
    by_cases c4 : nx.i 10 = 44
    · rw [if_pos c4] at g
      exact Or.inl ⟨c4, g⟩
    · rw [if_neg c4] at g
      exact Or.inr ⟨c4, g⟩
  · have k : ¬ q.i 10 = 4 := fun z => c (i4.mpr z)
    rw [e_fnd0 c, ob_some, if_pos rfl] at e
    obtain ⟨mi, emi, e⟩ := hf_bind e
    cases e
    rw [if_neg k] at g
    obtain ⟨f, hf, g⟩ := hf_bind g
    obtain ⟨fa, fb⟩ := y_can0 hf
    rw [if_pos fa, if_neg fb] at g
    exact Or.inl ⟨y_misp emi, hK f.2 0 fb g⟩
/-- the rest of the resources -/
theorem tr_loop {N : Nat} (hN : 1000 ≤ N) {d : Int32} {T a m : Nat} {P pp : CS} {s1 V : RS} {wh wr x1 : Int32} {W : Unit × CS} {Q : Prop} {Aj : JBA} {U : RS} {B : CS} {b : RS} {V0 : List RVW} {s0 : RS} {Wr : List RVW} {x y : Nat} {D E x9 x10 x11 : Int32} (l19 : (s0.i 19).toInt ≤ 20) (hph : 0 ≤ phI s1 + 1) : ∀ (k n : Nat) (R : CS) (q : RS) (x2 : Int32), TRW d T a m P pp s1 3 3 wh wr R q → (Q → ∃ z : Nat, TRJ Aj U B b V0 s0 Wr a x y z 0 D E x9 x10 x11 R q) → 0 ≤ x2.toInt → x2.toInt ≤ (q.i 11).toInt → f_X7_beginTry_106 N n R x2 = some W → ((q.i 10 = 44 ∧ f_X12_trying_140 N k q x1 1 = some V) ∨ (¬ q.i 10 = 44 ∧ f_X12_trying_140 N k q x1 0 = some V)) → (¬ W.2.i 32 = 0 ∧ ¬ V.i 15 = 0) ∨ ∃ (R' : CS) (u : RS), TRW d T a m P pp s1 3 3 wh wr R' u ∧ (Q → ∃ z : Nat, TRJ Aj U B b V0 s0 Wr a x y z 0 D E x9 x10 x11 R' u) ∧ f_X7_beginTry_132 N R' = some W ∧ f_X12_trying_215 N u x1 = some V
  | 0, _, _, _, _, _, _, _, _, _, g => by
    rcases g with ⟨-, g⟩ | ⟨-, g⟩ <;> cases g
  | k + 1, 0, _, _, _, _, _, _, _, e, _ => by cases e
  | k + 1, n + 1, R, q, x2, h, hJ, h0, hx, e, g => by
    have e' : b_X7_beginTry_106 N (f_X7_beginTry_106 N n) R x2 = some W := e
    unfold b_X7_beginTry_106 at e'
    have i44 := h.1.1.2.2.2.1.is (c := 44) (d := 44) (Or.inl ⟨by decide, by decide⟩) (by decide)
    rcases g with ⟨c, g⟩ | ⟨c, g⟩
    · have g' : b_X12_trying_140 N (f_X12_trying_140 N k) q x1 1 = some V := g
      unfold b_X12_trying_140 at g'
      rw [if_neg n10, if_pos h.1.1.2.1] at g'
      obtain ⟨nx, hnx, g'⟩ := hf_bind g'
      have c43 := i44.mpr c
      have n9 : ¬ (900 : Int32) ≤ x2 := fun z => by
        have e9 : (900 : Int32).toInt = 900 := by decide
        have z1 := le_int z
        have z2 := (i20_hw h.1).2
        have z3 := h.1.1.2.2.2.2.2.2.1.2.2.2.1 (by rw [c43]; decide)
        have z4 := h.1.1.2.2.2.1.1
        have z5 := h.1.1.2.2.2.1.2.1
        have z6 := h.1.1.2.2.2.2.1
        have z7 := h.1.1.2.2.1.2.1
        rw [z4, z5] at z3
        omega
      rw [if_neg n9] at e'
      obtain ⟨v, ev, e'⟩ := hf_bind e'
      obtain ⟨av, eav, hv⟩ := e_skip1 c43 ev
      rw [hv, if_neg n10] at e'
      obtain ⟨w, ew, e'⟩ := hf_bind e'
      have h2 := h.nx hN (by rw [c43]; decide) eav hnx
      have l11 : (q.i 11).toInt + 1 ≤ (nx.i 11).toInt := by
        obtain ⟨-, -, -, -, z, -⟩ := h.1.adv hN (by rw [c43]; decide) eav hnx
        exact z
      have jn : Q → ∃ z : Nat, TRJ Aj U B b V0 s0 Wr a x y z 1 D E x9 x10 x11 av.2 nx := fun hq => by
        obtain ⟨z, j1⟩ := hJ hq
        obtain ⟨v1, -⟩ := h.1.adv hN (by rw [c43]; decide) eav hnx
        have z1 := h.1.1.2.2.2.1.1
        have z2 := v1.1.2.2.2.1.1
        exact ⟨z, j1.nx hN h.1 (by rw [c43]; decide) eav hnx (k := 1) (by omega) (by rw [z1, z2]; exact l11)⟩
      rcases tr_one hN (K := f_X12_trying_140 N k) l19 jn (fun y v z hz => krf_f_X12_trying_140 N k y x1 v V hz z) hph (h2.nu (by omega) (by omega)) ew g' with ⟨z1, z2⟩ | ⟨u, h3, l2, hj3, h4⟩
      · refine Or.inl ⟨?_, z2⟩
        rw [kF_X7_beginTry_106 N n w.2 (x2 + 1) W e' z1]
        exact z1
      · have x21 : (x2 + 1).toInt = x2.toInt + 1 := ad1 h0 (by have := (i20_hw h.1).2.2; omega)
        exact tr_loop hN l19 hph k n w.2 u (x2 + 1) h3 hj3 (by omega) (by omega) e' h4
    · have g' : b_X12_trying_140 N (f_X12_trying_140 N k) q x1 0 = some V := g
      unfold b_X12_trying_140 at g'
      rw [if_pos rfl] at g'
      have c43 : ¬ R.i 43 = 44 := fun z => c (i44.mp z)
      refine Or.inr ⟨R, q, h, hJ, ?_, g'⟩
      by_cases n9 : (900 : Int32) ≤ x2
      · rw [if_pos n9] at e'
        exact e'
      · rw [if_neg n9, e_skip0 c43, ob_some, if_pos rfl] at e'
        exact e'
