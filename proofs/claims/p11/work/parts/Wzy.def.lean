/-! both readers: for (int NAME = EXPR -/
theorem e_exp1 {N : Nat} {S : CS} {c : Int32} {R : Unit × CS} (k : S.i 43 = c) (e : f_X1_expect N S c = some R) : f_X9_advance N S = some R := by
  unfold f_X1_expect at e
  rw [e_fnd1 k, ob_some, if_neg n10] at e
  obtain ⟨p, ep, e⟩ := hf_bind e
  cases e
  exact ep
theorem y_ex0 {N : Nat} {S : CS} {c : Int32} {R : Unit × CS} (k : ¬ S.i 43 = c) (e : f_X1_expect N S c = some R) : ¬ R.2.i 32 = 0 := by
  unfold f_X1_expect at e
  rw [e_fnd0 k, ob_some, if_pos rfl] at e
  obtain ⟨p, ep, e⟩ := hf_bind e
  cases e
  exact y_misp ep
theorem b80_in {N : Nat} {E1 : CS → Option (Unit × CS)} {E2 : CS → Option (Int32 × CS)} {X : CS} {v : Int32} {R : Unit × CS} (e : f_X7_beginFor_80 N E1 E2 X v = some R) : ∃ W : Option Nat × CS, f_X7_forHead N E1 E2 X = some W ∧ f_X7_beginFor_85 N E1 E2 W.2 v W.1 = some R := by
  unfold f_X7_beginFor_80 at e
  obtain ⟨W, eW, e⟩ := hf_bind e
  rcases hf_oc e with ⟨h1, h2⟩ | ⟨a, h1, h2⟩
  · exact ⟨W, eW, by rw [h1]; exact h2⟩
  · exact ⟨W, eW, by rw [h1]; exact h2⟩
/-- no ; where one must stand -/
theorem fh_bad {N : Nat} {E1 : CS → Option (Unit × CS)} {E2 : CS → Option (Int32 × CS)} (hm1 : ∀ σ, Kf (CS.i σ 32) (E1 σ)) (hm2 : ∀ σ, Kf (CS.i σ 32) (E2 σ)) {X : CS} {W : Option Nat × CS} (k : ¬ X.i 43 = 59) (e : f_X7_forHead N E1 E2 X = some W) : ¬ W.2.i 32 = 0 := by
  unfold f_X7_forHead at e
  obtain ⟨y1, ey1, e⟩ := hf_bind e
  obtain ⟨y5, ey5, e⟩ := hf_bind e
  obtain ⟨y9, ey9, e⟩ := hf_bind e
  obtain ⟨y13, ey13, e⟩ := hf_bind e
  obtain ⟨y17, ey17, e⟩ := hf_bind e
  obtain ⟨y21, ey21, e⟩ := hf_bind e
  have k13 : ¬ y13.2.i 43 = 59 := by
    rw [(nt_i ey13).2.1, (nt_i ey9).2.1, (nt_i ey5).2.1, (nt_i ey1).2.1]
    exact k
  have z17 := y_ex0 k13 ey17
  have z21 : ¬ y21.2.i 32 = 0 := by rw [kF_X0_aim N y17.2 y1.1 y21 ey21 z17]; exact z17
  have f76 : ∀ (Y : CS) (v : Int32), f_X7_forHead_76 N E1 E2 Y y1.1 y5.1 y9.1 y13.1 v = some W → ¬ Y.i 32 = 0 → ¬ W.2.i 32 = 0 := fun Y v h z => by
    rw [kF_X7_forHead_76 N E1 E2 hm1 hm2 Y y1.1 y5.1 y9.1 y13.1 v W h z]
    exact z
  obtain ⟨p25, e25, e⟩ := hf_bind e
  by_cases c2 : y21.2.i 43 = 59
  · rw [e_fnd1 c2] at e25
    cases e25
    rw [if_neg n10] at e
    exact f76 _ _ e z21
  · rw [e_fnd0 c2] at e25
    cases e25
    rw [if_pos rfl] at e
    obtain ⟨p75, e75, e⟩ := hf_bind e
    obtain ⟨p79, e79, e⟩ := hf_bind e
    refine f76 _ _ e ?_
    rw [fst_add e79, kF_X1_condition N E1 E2 hm1 hm2 y21.2 p75 e75 z21]
    exact z21
/-- the name is told -/
theorem WAY.tel {N : Nat} {d : Int32} {T : Nat} {p f k y z : Int} {S P : CS} {s q : RS} {l : Int64} {w : Int32 × CS} {v : Int32 × RS} (h : WAY (d + 1) T p f k y z S s P q) (hp : 8 ≤ p) (h8 : 8 * ((s.i 38).toInt - 2) ≤ (s.i 11).toInt) (hn : ∀ k : Nat, (k : Int) < (q.i 38).toInt → ¬ q.b 39 k = l) (e : f_X7_tell N P l = some w) (g : f_X12_see N q l 0 = some v) : WAZ d T p f k y z S s w.2 v.2 ∧ (∀ r : Nat, FRB r q v.2) := by
  obtain ⟨h1, h2, h3, h4, h5, ⟨i1, i2, i3, i4, i5⟩, ⟨n1, n2, n3, n4⟩, ⟨r1, r2, r3⟩⟩ := h
  obtain ⟨t1, t2, t3, t4, t5, t6, t7, t8, t9, t10⟩ := h4.1.1
  obtain ⟨a1, a2, a3, a4, a5, a6⟩ := y_tell h1 (by rw [t4]; omega) hn e g
  obtain ⟨b1, b2, ⟨m1, m2, m3, m4, m5, m6, m7, m8, m9⟩, b4, b5, b6⟩ := see_tbr g
  have zi := (y_see g).2.2.1
  have ck : CKZ P w.2 := a2.z
  have c38 : w.2.i 38 = P.i 38 := a2.1.2.2.1
  have c53 : w.2.i 53 = P.i 53 := a2.1.2.2.2.2.1
  have c56 : w.2.i 56 = P.i 56 := a2.1.2.2.2.2.2
  have rt : RTE P w.2 := a2.2.2.2.2.2.2.2.2
  have k11 := h1.1.2.2.2.1.1
  have k11' := a1.1.2.2.2.1.1
  unfold RTE at rt
  rw [k11, k11'] at rt
  have z11 : v.2.i 11 = q.i 11 := zi 11 (by decide) (by decide)
  have z17 : v.2.i 17 = q.i 17 := zi 17 (by decide) (by decide)
  have z19 : v.2.i 19 = q.i 19 := zi 19 (by decide) (by decide)
  rw [z11] at rt
  have tv : tpI v.2 = (T : Int) := by
    show (v.2.i 63).toInt = (T : Int)
    rw [zi 63 (by decide) (by decide)]
    exact h2
  exact ⟨⟨a1, tv, h3.tr (b4 T), ⟨h4.1.r.tr b1 (by rw [t4]; exact Int.le_refl _) (by rw [t5]; exact Int.le_refl _) (by rw [t7]; exact Int.le_refl _), h4.2.tr (b2.wk h4.2.1), ⟨m1.trans t1, m2.trans t2, m3.trans t3, m4.trans t5, m5.trans t6, m6.trans t7, m7.trans t8, m8.trans t9, m9.trans t10⟩⟩, h5.tr i3 ck, ⟨c38.trans i1, c53.trans i3, c56.trans i4, a6.trans i5⟩, ⟨by rw [z11]; exact n1, by rw [b5]; exact n2, by rw [z17]; exact n3, by rw [z19]; exact n4⟩, ⟨by rw [z11]; omega, by rw [z11]; omega, by rw [z11]; omega⟩, ⟨by rw [b6, t4]; omega, fun _ => by rw [b6, t4, z11]; omega⟩⟩, b4⟩
set_option maxHeartbeats 4000000 in
theorem fo_def {N : Nat} (hN : 1000 ≤ N) {E1 : CS → Option (Unit × CS)} {E2 : CS → Option (Int32 × CS)} (hm1 : ∀ σ, Kf (CS.i σ 32) (E1 σ)) (hm2 : ∀ σ, Kf (CS.i σ 32) (E2 σ)) (hE : SXR N 18 E1) (hE2 : SXN N 22 E2) {d : Int32} {B : CS} {b : RS} {t0 T n : Nat} {L : List CEL} {x : Int} {S P : CS} {s q V U : RS} {c : CEL} {l : Int64} {D : Unit × CS} {W : Option Nat × CS} {R : Unit × CS} {A : JBA} (hC : COR d B b t0 (c :: L) x S s) (q1 : TOP S s c) (q2 : LOW S s c) (q3 : T = ceT c + wid (S.o c.2.1 0)) (hT : t0 ≤ T) (hm : NMC c S) (hx : S.o c.2.1 0 = 303 → x = -3) (hB : BOT b S (c :: L)) (w : WAY (d + 1) T 7 11 1 (-4) 2 S s P q) (jg : KU3 U s → JRW A U B b (vws S s (c :: L)) S s → JRG A U B b (vws S s (c :: L)) s [] (JQA U 1264 0 (pcC P) (pcR q) JQZ) (-4) (-4) P q) (k10 : q.i 10 = 61) (k64 : q.a 64 T = 12) (k71 : q.a 71 T = S.i 50) (k74 : q.b 74 T = l) (fr : ∀ k : Nat, (k : Int) < (q.i 38).toInt → ¬ q.b 39 k = l) (e : f_X7_define N E1 E2 P l = some D) (e1 : f_X7_forHead N E1 E2 D.2 = some W) (e2 : f_X7_beginFor_85 N E1 E2 W.2 (S.i 50) W.1 = some R) (hV : f_X12_forHead_76 N q (q.i 63) 0 = some V) (g : f_X12_parse_10 N n V = some U) : (¬ R.2.i 32 = 0 ∧ ¬ U.i 15 = 0) ∨ DMD d B R.2 U ∨ ∃ (m : Nat) (u : RS), f_X12_parse_10 N m u = some U ∧ NEW d B b t0 c L R.2 u (JTR A U B b (c :: L) S s) := by
  have hv := hC.1
  have h8 := hC.2.2.2.2.2.2.2.2.1.2.1
  have fD : ¬ D.2.i 32 = 0 → ¬ R.2.i 32 = 0 := fun z => by
    have z1 : ¬ W.2.i 32 = 0 := by rw [kF_X7_forHead N E1 E2 hm1 hm2 D.2 W e1 z]; exact z
    rw [kF_X7_beginFor_85 N E1 E2 hm1 hm2 W.2 (S.i 50) W.1 R e2 z1]
    exact z1
  unfold f_X7_define at e
  obtain ⟨x1, ex1, e⟩ := hf_bind e
  obtain ⟨x5, ex5, e⟩ := hf_bind e
  obtain ⟨x9, ex9, e⟩ := hf_bind e
  obtain ⟨x13, ex13, e⟩ := hf_bind e
  cases e
  have k43 := (tk_is w.1 (a := 61) (b := 61) (Or.inl ⟨by decide, by decide⟩) (by decide)).mpr k10
  have ea := e_exp1 k43 ex1
  unfold f_X12_forHead_76 f_X12_forHead_142 at hV
  obtain ⟨nx, hnx, hV⟩ := hf_bind hV
  rw [if_pos rfl, ob_id] at hV
  obtain ⟨w1, f1⟩ := w.nx hN (by rw [k43]; decide) ea hnx
  have p1 : 3 ≤ phI nx := by
    have z1 := w1.2.2.2.2.2.2.1.2.1
    have z2 := hv.2.2.2.2.2.2.2.1
    omega
  rcases y_expr hN hm1 hm2 hE w1.1 w1.2.1 p1 ex5 hV g with ⟨z1, z2⟩ | ⟨m3, u, g3, xo, xc⟩
  · refine Or.inl ⟨fD ?_, z2⟩
    show ¬ x13.2.i 32 = 0
    rw [fst_add ex13, kF_X7_tell N x5.2 l x9 ex9 z1]
    exact z1
  have w2 := w1.exo xo
  obtain ⟨ft1, -⟩ := FRB.ft (T := T) f1
  obtain ⟨ft2, u65⟩ := xo.ft
  have u74 : u.b 74 T = l := by
    rw [xo.2.2.1.2.2.2.2.2.2.2.2.2.2, (f1 (T + 1) T (by omega)).2.2.2.2.2.2.2.2.2.2]
    exact k74
  have ft := ft1.tr ft2
  obtain ⟨m4, V4, hV4, g4⟩ := rl_12 g3 w2.2.1 w2.1.1.2.1 (ft.1.trans k64)
  unfold f_X12_fors at hV4
  obtain ⟨-, hV4⟩ := hf_ite hV4
  rw [tp_nat w2.2.1, if_neg (show ¬ u.a 65 T = 0 by rw [u65]; decide), if_pos u65, u74] at hV4
  obtain ⟨z, hz, hV4⟩ := hf_bind hV4
  obtain ⟨em, hem, hV4⟩ := hf_bind hV4
  cases hV4
  have tb : TBK q u := by
    have z1 : TBK q nx := (y_nx hN w.1 w.2.1 (by rw [k43]; decide) ea hnx).2.2.2.1
    exact z1.tr xo.2.2.2.2.1
  have u38 : u.i 38 = q.i 38 := tb.1.1.2.2.2.1
  obtain ⟨w3, f3⟩ := w2.tel (by omega) h8 (fun k hk => by
    rw [u38] at hk
    rw [(tb.1.2.1 k hk).1]
    exact fr k hk) ex9 hz
  have lo3 := w3.lo
  have ph0 := hv.2.2.2.2.2.2.2.1
  obtain ⟨w4, f4, -, -, -⟩ := (w3.ad ex13).em (by omega) hem
  obtain ⟨ft3, -⟩ := FRB.ft (T := T) f3
  obtain ⟨ft4, -⟩ := FRB.ft (T := T) f4
  have ftt := ft.tr (ft3.tr ft4)
  exact fo_three hN hm1 hm2 hE hE2 hC q1 q2 q3 hT hm hx hB ((w4.sa (j := 65) (v := 3) ⟨by omega, by omega⟩).nu (by omega) (by omega) (by omega) (by omega) (by omega)) (ftt.1.trans k64) setA_at (ftt.2.2.2.2.2.2.1.trans k71) (fun ku jw => by
    have pc1 : pcC x1.2 = pcC P := pcC.pe (ke_X1_expect N P 61 x1 ex1)
    have pr1 : pcR nx = pcR q := pcR.qe (kre_f_X12_next N q nx hnx)
    have j1 := (jg ku jw).adv hN w.1 (by rw [k43]; decide) ea hnx
    have j2 := j1.imp (a1 := -5) (e1 := -5) (K' := JAN JTT (JQA U 1264 0 (pcC x1.2) (pcR nx) JQZ)) (by omega) (by omega) (fun _ _ _ _ _ _ _ _ _ _ _ _ _ k => ⟨True.intro, by rw [pc1, pr1]; exact k⟩)
    have j3 := j2.frm w1.1 xo xc (by omega) (by omega) (by omega) (by have := w1.2.2.2.2.2.2.1.1; omega) (by have := w1.2.2.2.2.2.2.1.2.2.2; omega)
    have u20 := w2.1.p20
    have j4 := j3.tel (by rw [u38, w.2.2.2.1.1.1.2.2.2.1]; exact hC.2.2.2.2.2.1.2.1.1) w2.1 (by omega) ex9 hz ex13 hem (by omega) (by omega)
    exact (j4.imp (a1 := -2) (e1 := -2) (K' := JQA U 1264 0 (pcC x13.2) (pcR em.2) JQZ) (by omega) (by omega) (fun _ _ _ _ _ _ _ _ _ _ _ _ _ k => k.2)).se (u := RS.setA em.2 65 T 3) rfl ⟨rfl, fun _ _ => rfl⟩) e1 e2 g4
