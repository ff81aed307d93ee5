/-! both readers: if -/
set_option maxHeartbeats 4000000 in
theorem st_if {N : Nat} (hN : 1000 ≤ N) {E1 : CS → Option (Unit × CS)} {E2 : CS → Option (Int32 × CS)} (hm1 : ∀ σ, Kf (CS.i σ 32) (E1 σ)) (hm2 : ∀ σ, Kf (CS.i σ 32) (E2 σ)) (hE2 : SXN N 22 E2) {d : Int32} {B : CS} {b : RS} {t0 T n : Nat} {L : List CEL} {x : Int} {S : CS} {s U : RS} {c : CEL} {p R : Unit × CS} {A : JBA} (hC : COR d B b t0 (c :: L) x S s) (hS : STO c T S s) (hT : t0 ≤ T) (hm : NMC c S) (hx : S.o c.2.1 0 = 303 → x = -1) (h43 : S.i 43 = 203) (e1 : f_X0_add N (CS.setI (CS.setI S 36 1) 24 ((S.i 24) + 1)) 51 0 = some p) (e : f_X7_beginIf N E1 E2 p.2 = some R) (g : f_X12_parse_10 N n s = some U) : (¬ R.2.i 32 = 0 ∧ ¬ U.i 15 = 0) ∨ DMD d B R.2 U ∨ ∃ (m : Nat) (u : RS), f_X12_parse_10 N m u = some U ∧ NEW d B b t0 c L R.2 u (JTR A U B b (c :: L) S s) := by
  obtain ⟨q1, q2, q3, q4, q5, q6⟩ := id hS
  have hv := hC.1
  have k10 := (tk_is hv (a := 203) (b := 413) (Or.inr ⟨by decide, by decide⟩) (by decide)).mp h43
  obtain ⟨m1, s1, g1, w0, a64, a65, i43, i10, ph3, i21, i11, jst⟩ := st_gj hC hS k10 (Or.inl ⟨rfl, rfl⟩) (by decide) e1 g
  have t21 := hC.2.2.2.2.2.2.2.2.1.1
  -- the class, taken apart
  unfold f_X7_beginIf f_X7_conditionInside at e
  obtain ⟨x1, ex1, e⟩ := hf_bind e
  obtain ⟨x5, ex5, e⟩ := hf_bind e
  obtain ⟨x9, ex9, e⟩ := hf_bind e
  obtain ⟨y1, ey1, ex9⟩ := hf_bind ex9
  obtain ⟨y5, ey5, ex9⟩ := hf_bind ex9
  obtain ⟨y9, ey9, ex9⟩ := hf_bind ex9
  obtain ⟨hb01, ex9⟩ := hf_ite ex9
  cases ex9
  obtain ⟨x13, ex13, e⟩ := hf_bind e
  obtain ⟨x17, ex17, e⟩ := hf_bind e
  have fR : x17.2.i 32 = R.2.i 32 := by
    cases hr : x17.1 with
    | none =>
      rw [hr] at e
      exact absurd (show (none : Option (Unit × CS)) = some R from e) (fun z => by cases z)
    | some a =>
      rw [hr] at e
      have e' : (if oK x17.2 a 0 then some ((), CS.setO x17.2 a 10 x1.1) else none) = some R := e
      obtain ⟨-, e'⟩ := hf_ite e'
      cases e'
      rfl
  have f9 : ¬ y9.2.i 32 = 0 → ¬ R.2.i 32 = 0 := fun z => by
    have z1 : ¬ x13.2.i 32 = 0 := by rw [fst_add ex13]; exact z
    rw [← fR, kF_X6_push N x13.2 203 _ _ x17 ex17 z1]
    exact z1
  have f5 : ¬ y5.2.i 32 = 0 → ¬ R.2.i 32 = 0 := fun z => f9 (by rw [kF_X1_close N y5.2 41 y9 ey9 z]; exact z)
  have f1 : ¬ y1.2.i 32 = 0 → ¬ R.2.i 32 = 0 := fun z => f5 (by rw [kF_X1_condition N E1 E2 hm1 hm2 y1.2 y5 ey5 z]; exact z)
  -- the reference, to its condition
  have w1 := w0.nt (by rw [i21, i11]; omega) ex1
  obtain ⟨m2, V, hV, g2⟩ := rl_9 g1 w0.2.1 w0.1.1.2.1 a64
  unfold f_X12_branch at hV
  obtain ⟨hib, hV⟩ := hf_ite hV
  rw [tp_nat w0.2.1, if_pos a65] at hV
  obtain ⟨q, hq, hV⟩ := hf_bind hV
  obtain ⟨r, hr, hV⟩ := hf_bind hV
  rw [ob_id] at hV
  have nz : ¬ x1.2.i 43 = 0 := by rw [(nt_i ex1).2.1, i43, h43]; decide
  obtain ⟨w2, f2⟩ := w1.nx hN nz ex5 hq
  rcases w2.op hN (c := 40) (e := 40) (Or.inl ⟨by decide, by decide⟩) (by decide) (by decide) (by decide) ey1 hr with ⟨o1, o2, o3⟩ | ⟨o1, w3, f3⟩
  · exact Or.inl ⟨f1 o2, u_flt g2 (krf_f_X12_then N r.2 1 20 V hV o3)⟩
  have cop := op_cd hN w2.1 (c := 40) (d := 40) (Or.inl ⟨by decide, by decide⟩) (by decide) (by decide) (by decide) ey1 hr o1
  have cad := adv_cd hN w1.1 nz ex5 hq
  have p3 : 3 ≤ phI r.2 := by
    have := w3.2.2.2.2.2.2.1.2.1
    omega
  rcases y_cond hN hm1 hm2 hE2 w3.1 w3.2.1 p3 ey5 hV g2 with ⟨z1, z2⟩ | ⟨m3, u, g3, xo, -, -, xc⟩
  · exact Or.inl ⟨f5 z1, z2⟩
  have w4 := w3.exo xo
  obtain ⟨r0, r1, -⟩ := xo.2.2.1
  have u64 : u.a 64 T = 9 := by
    rw [r0, (f3 (T + 1) T (by omega)).1, (f2 (T + 1) T (by omega)).1]
    exact a64
  -- behind the condition
  obtain ⟨m4, V4, hV4, g4⟩ := rl_9 g3 w4.2.1 w4.1.1.2.1 u64
  unfold f_X12_branch at hV4
  obtain ⟨-, hV4⟩ := hf_ite hV4
  rw [tp_nat w4.2.1, if_neg (show ¬ u.a 65 T = 0 by rw [r1]; decide), if_pos r1] at hV4
  obtain ⟨sh, hsh, hV4⟩ := hf_bind hV4
  obtain ⟨em, hem, hV4⟩ := hf_bind hV4
  rw [ob_id] at hV4
  rcases w4.cl hN hv (by omega) (c := 41) (e := 41) (Or.inl ⟨by decide, by decide⟩) (by decide) (by decide) (by decide) ey9 hsh with ⟨o1, o2, o3⟩ | ⟨o1, w5, f5'⟩
  · refine Or.inl ⟨f9 o2, u_flt g4 (krf_f_X12_body N _ 2 V4 hV4 ?_)⟩
    show ¬ em.2.i 15 = 0
    exact krf_f_X12_emit N sh.2 13 0 em hem o3
  have ccl := cl_cd hN w4.1 (by have := w4.sg hv; omega) (c := 41) (d := 41) (Or.inl ⟨by decide, by decide⟩) (by decide) (by decide) (by decide) ey9 hsh o1
  have p5 : 1 ≤ phI sh.2 := by
    have := w5.2.2.2.2.2.2.1.2.1
    omega
  obtain ⟨w6, f6, e20, n20, -⟩ := w5.em p5 hem
  have w7 := (w6.ad ex13).sa (j := 66) (v := em.1) ⟨by omega, by omega⟩
  have w8 : WAY d T 4 5 0 0 3 S s x13.2 (RS.setA em.2 66 T em.1) := w7.nu (by omega) (by omega) (by omega) (by omega) (by omega)
  have v64 : (RS.setA em.2 66 T em.1).a 64 T = 9 := by
    show em.2.a 64 T = 9
    rw [(f6 (T + 1) T (by omega)).1, (f5' (T + 1) T (by omega)).1]
    exact u64
  have v66 : (RS.setA em.2 66 T em.1).a 66 T = em.1 := setA_at
  have v20 : ((RS.setA em.2 66 T em.1).i 20).toInt = (sh.2.i 20).toInt + 1 := n20
  have l20 : (s.i 20).toInt ≤ (sh.2.i 20).toInt := w5.2.2.2.1.2.1
  obtain ⟨v, hvv⟩ : ∃ v, v = RS.setA em.2 66 T em.1 := ⟨_, rfl⟩
  have qv : qe v = qe em.2 := by rw [hvv]; rfl
  rw [← hvv] at w8 v64 v66 v20 hV4
  have em38 : NMV s em.2 := w6.nv
  have e38v : v.i 38 = em.2.i 38 := by rw [hvv]; rfl
  clear hvv w7 w6
  -- the class's row
  obtain ⟨cP, tP, lP, oP⟩ := hC.way q1 q2 q3 hT w8 ⟨by omega, by omega, by omega, by omega, by omega⟩
  have q54 := hC.2.2.2.2.2.2.2.2.1.2.2
  have n54 := w8.2.2.2.2.2.2.2.2.1
  have sgP := w8.sg hv
  obtain ⟨a, m, ra, psr, evR, sq⟩ := w8.1.row (v := 203) ⟨by decide, by decide, by decide, by decide⟩ (w8.pay hv (by omega)) (by rw [if_neg (by decide), if_neg (by decide)]; exact sgP) (by omega) ex17
  have f0x := psr.2.2.2.2.2.2.2.2.2.1
  rw [ra] at e
  have e' : (if oK x17.2 a 0 then some ((), CS.setO x17.2 a 10 x1.1) else none) = some R := e
  obtain ⟨-, e'⟩ := hf_ite e'
  cases e'
  have evX : ENV d (CS.setO x17.2 a 10 x1.1) v := evR.so (by decide)
  have sqX := sq.so (k := 10) (w := x1.1) ⟨by decide, by decide, by decide, by decide⟩
  have o5X : (CS.setO x17.2 a 10 x1.1).o a 5 = 0 := (so_nk (by decide)).trans f0x.1
  have x38 : (CS.setO x17.2 a 10 x1.1).i 38 = x13.2.i 38 := psr.2.1 38 (by decide) (by decide)
  have x21 : (CS.setO x17.2 a 10 x1.1).i 21 = x13.2.i 21 := psr.2.1 21 (by decide) (by decide)
  obtain ⟨X, hX⟩ : ∃ X, X = CS.setO x17.2 a 10 x1.1 := ⟨_, rfl⟩
  show _ ∨ DMD d B (CS.setO x17.2 a 10 x1.1) U ∨ ∃ (m : Nat) (u : RS), f_X12_parse_10 N m u = some U ∧ NEW d B b t0 c L (CS.setO x17.2 a 10 x1.1) u (JTR A U B b (c :: L) S s)
  have peX : pe X = pe x17.2 := by rw [hX]; rfl
  have aX : X.a = x17.2.a := by rw [hX]; rfl
  have iX : X.i = x17.2.i := by rw [hX]; rfl
  have oX : X.o a 10 = x1.1 := by rw [hX]; exact so_at
  rw [← hX] at evX sqX o5X x38 x21 ⊢
  clear hX
  refine Or.inr ?_
  obtain ⟨zX, ⟨r53, r54, r55, r52⟩, ⟨r50, r56, r36⟩, ⟨m1', m2', rr1⟩, ⟨g0, g1', g3', g14⟩, -⟩ := id sqX
  rcases r_body evX.1.2.1 hV4 g4 with ⟨z1, z2⟩ | ⟨hth, n410, n411, -⟩
  · refine Or.inl ⟨z1, ⟨v, evX, z2⟩, r36.trans w8.2.2.2.2.2.1.2.2.2.2, a, m, by omega, ⟨m2', by have z9 := hC.2.2.2.2.1.2.2.1; have z8 := w8.2.2.2.2.2.1.2.2.1; rw [z8] at m1'; omega⟩, rr1, by rw [g0]; exact Or.inl rfl, o5X⟩
  refine Or.inr ?_
  obtain ⟨hV', t99⟩ := r_then w8.2.1 hth
  rw [hV'] at g4
  obtain ⟨u', hu'⟩ : ∃ y, y = TH v T 2 2 := ⟨_, rfl⟩
  have evu : ENV d X u' := by rw [hu']; exact evX.th
  have fu : FRB T v u' := by rw [hu']; exact TH.frb
  have ku : TBK v u' := by rw [hu']; exact TH.tbk
  have iu : ∀ k : Nat, k ≠ 63 → u'.i k = v.i k := by
    rw [hu']
    exact fun k h => if_neg h
  have u64' : u'.a 64 T = 9 := by
    rw [hu', TH.fk0 (Nat.le_refl T)]
    exact v64
  have u65' : u'.a 65 T = 2 := by rw [hu']; exact TH.st
  have u66' : u'.a 66 T = em.1 := by
    rw [hu']
    exact v66
  have u641 : u'.a 64 (T + 1) = 2 := by rw [hu']; exact TH.fk
  have u651 : u'.a 65 (T + 1) = 0 := by rw [hu']; exact TH.fs
  have tu : tpI u' = ((T + 1 : Nat) : Int) := by rw [hu']; exact TH.tp w8.2.1 (by omega)
  have pa : u'.a 60 = v.a 60 ∧ u'.a 61 = v.a 61 ∧ u'.a 62 = v.a 62 := by
    rw [hu']
    exact ⟨rfl, rfl, rfl⟩
  have qu : qe u' = qe v := by rw [hu']; rfl
  rw [← hu'] at g4
  clear hu' hV'
  -- from where the statement began
  have hin := hC.inl q1 q3
  obtain ⟨wv1, wv2, wf, wt, wz, ⟨j38, j50, j53, j56, j36⟩, ⟨n11, nph, n17, n19⟩, ⟨n21, n54', n55⟩⟩ := id w8
  have tbq : TBK s u' := wt.tr ku
  have fq : FRB T s u' := wf.tr fu
  obtain ⟨t1, t2, t3, t4, t5, t6, t7, t8, t9, t10⟩ := tbq.1.1
  have ckall : CKZ S X := wz.tr j53 zX
  have eo := (hin.o ckall c List.mem_cons_self).1
  have low : LOW X u' c := q2.mv eo fq (by omega)
  have ng : ¬ isGo (X.o a 0) := by
    unfold isGo
    rw [g0]
    decide
  have nt : ¬ isTy (X.o a 0) := by
    unfold isTy
    rw [g0]
    decide
  have nw : ¬ isWl (X.o a 0) := by
    unfold isWl
    rw [g0]
    decide
  have one : isOne (X.o a 0) := by
    rw [g0]
    exact Or.inl rfl
  have wd : wid (X.o a 0) = 1 := by
    rw [g0]
    rfl
  have dp0 : nDp (X.o a 0) = 0 := by
    rw [g0]
    rfl
  have db0 : dbt (X.o a 0) = 0 := by
    rw [g0]
    rfl
  have o1i : (X.o a 1).toInt = (x13.2.i 54).toInt + 1 := by
    rw [g1', ad1 (by have := w8.1.sj.1; omega) (by have := w8.1.sj.2.1; have := (i11_hi w8.1).2; omega)]
  have u11 : u'.i 11 = v.i 11 := iu 11 (by decide)
  have z44 : S.i 44 = s.i 11 := hv.1.2.2.2.1.1
  have z45 : X.i 44 = v.i 11 := evX.1.2.2.2.1.1
  have rte : RTE S X := by
    unfold RTE
    rw [z44, z45, x21, r54, r55]
    omega
  have iar : IAR X u' := by
    obtain ⟨⟨z1, z2⟩, z3⟩ := hC.2.2.2.2.2.2.2.2.2.1
    have e56 : X.i 56 = S.i 56 := r56.trans j56
    unfold IAR
    rw [e56, t5]
    refine ⟨⟨fun z => ?_, fun z => ?_⟩, fun z => ?_⟩
    · obtain ⟨g, w1, w2⟩ := z1 z
      exact ⟨g, w1, (tbq.1.2.2.1 g w1).1.trans w2⟩
    · obtain ⟨g, w1, w2⟩ := z
      exact z2 ⟨g, w1, (tbq.1.2.2.1 g w1).1.symm.trans w2⟩
    · obtain ⟨w1, w2, a', w3⟩ := z3 z
      exact ⟨by rw [r53, j53]; omega, w2, a', (ckall.2.1 _ (by omega)).trans w3⟩
  have lb : LBC X u' (c :: L) (-1) := by
    have z := hC.2.2.2.1
    have z2 : LBC S s (c :: L) (-1) := by
      by_cases w : S.o c.2.1 0 = 303
      · rw [hx w] at z
        exact z
      · exact z.no w
    exact LBC.mv (c :: L) (-1) z2 (fun y hy => (hin.o ckall y hy).1) (fun y hy w => (tbq.1.2.2.1 (ceG y) ((hin y hy).2.2.2.1 (Or.inl w))).2.2.1)
  obtain ⟨c1, hc1⟩ : ∃ c1 : CEL, c1 = (c.1 + 1, a, T, ceG c + nGo (S.o c.2.1 0), ceW c + nWl (S.o c.2.1 0)) := ⟨_, rfl⟩
  have v1 : c1.1 = c.1 + 1 := by rw [hc1]
  have v2 : c1.2.1 = a := by rw [hc1]
  have v3 : ceT c1 = T := by rw [hc1]; rfl
  have v4 : ceG c1 = ceG c + nGo (S.o c.2.1 0) := by rw [hc1]; rfl
  have v5 : ceW c1 = ceW c + nWl (S.o c.2.1 0) := by rw [hc1]; rfl
  clear hc1
  have em1 : m = c.1 + 1 := by
    have a1 := q1.1
    rw [j53] at m1'
    omega
  obtain ⟨b29, b30, b0, col, hc⟩ := id hC.2.2.2.2.2.2.2.2.2.2
  have s20 : 0 ≤ (s.i 20).toInt := by
    have := hC.2.2.2.2.2.1.2.2.1.1
    omega
  have hcol : ∃ col : Nat → Option (Nat × Bool), COL X u' (c1 :: c :: L) col (b.i 20).toInt := by
    refine ⟨col, (hc.mv b0 hin ckall fq tbq.1.r tbq.2).addp ?_ ?_ ?_⟩
    · rw [v2]
      exact ng
    · rw [v2, g0]
      decide
    · intro k z
      have hk : k = (sh.2.i 20).toInt := by
        unfold PLF at z
        rw [v2, g0, v3] at z
        rcases z with ⟨-, z⟩ | ⟨z, -⟩ | ⟨z | z, -⟩
        · rw [z, u66', e20]
        · exact absurd z (by decide)
        · exact absurd z (by decide)
        · exact absurd z (by decide)
      have fr := hc.fresh s20 (k := k) (by omega)
      have bs := hC.2.2.2.2.2.1.2.2.1.1
      refine ⟨by omega, by rw [iu 20 (by decide)]; omega, fr.1, fun y hy t => ?_⟩
      rw [(hin.o ckall y hy).1] at t
      have w1 := wid1 (S.o y.2.1 0)
      have w2 := (hin y hy).2.2.1
      rw [(fq (ceT y) (by omega)).2.2.1]
      exact fr.2 y hy t
  have jq := cP.2.2.1
  have hinP : INL x13.2 v T (c :: L) := cP.inl tP (by rw [oP]; exact q3)
  have eP : ∀ y ∈ c :: L, X.o y.2.1 = x13.2.o y.2.1 := fun y hy => (hinP.o zX y hy).1
  obtain ⟨-, -, -, -, -, -, j7, -⟩ := jq
  obtain ⟨k1, k2, k3, k4, k5⟩ := j7 c List.mem_cons_self
  rw [oP] at k1 k2 k3 k4 k5
  have nph' : phI u' = phI v := by
    unfold phI
    rw [iu 17 (by decide), iu 20 (by decide)]
  have n8 := hC.2.2.2.2.2.2.2.2.1.2.1
  have nmsP := w8.1.2.1.1
  refine ⟨m4, u', g4, c1, hC.push hin hT evu fq tbq.1.r tbq.2 ⟨t1, t2, t3, t8, t9, t10⟩ (by rw [t5]; exact Int.le_refl _) (by rw [t7]; exact Int.le_refl _) ckall cP.2.2.1 hinP eP fu (fun y hy z v' => by
    have w := ku.1.2.2.1 (ceG y) ((hinP y hy).2.2.2.1 z)
    unfold flg
    rw [w.2.2.2.2.1, w.2.2.2.2.2.1]) cP.jp.1 cP.jp.2 r54 r55 r52 ?_ (by rw [r53, j53]; omega) rte ⟨by rw [u11]; omega, by rw [v2, db0, nph']; omega, by rw [iu 17 (by decide)]; omega, by rw [v2, g0, iu 19 (by decide)]; show _ = (s.i 19).toInt + 0; omega⟩ (by rw [r54, u11]; omega) (by rw [x21, u11]; omega) (by rw [t4, u11]; omega) (by rw [t4]; exact Int.le_refl _) (iu 59 (by decide)) pa.1 pa.2.1 pa.2.2 (CST.pl (by rw [v1, v2, ← em1]; exact rr1) (by rw [v1]; omega) (by rw [v2, v3]; exact RFR.m203 g0 ⟨u64', u65'⟩) (by rw [v2, g0]; decide) (by rw [v2]; exact nt)) ⟨v1, by rw [v3, eo]; exact q3, by rw [v4, eo], by rw [v5, eo], by rw [v2, eo, o1i]; omega, by rw [v2, eo, g14]; exact k4, fun w => by rw [v2, eo, g14]; rw [eo] at w; exact (k5 w).2, fun w1 w2 w3 => by rw [v2, eo, g3', j50]; rw [eo] at w1 w2 w3; exact hm w1 w2 w3, by rw [v2, g0]; unfold isKS isOne isTy; decide⟩ low ?_ iar hcol (by rw [v2]; exact o1i) (by rw [v2]; exact g14) (by rw [v2, g0]; decide) (fun w => absurd w (by rw [v2]; exact ng)) (fun w => absurd w (by rw [v2]; exact nt)) (r56.trans j56) (by rw [v2, g3']; exact j50), ⟨?_, ?_, ?_⟩, ⟨Or.inr (Or.inl ⟨by rw [v2]; exact one, by rw [v2]; exact o5X, by rw [v3]; exact tu, by rw [v3]; exact u641, by rw [v3]; exact u651, r36.trans j36, (by rw [iu 10 (by decide)]; exact ⟨n410, n411⟩), fun _ _ _ => by rw [v2, g3', r50]⟩), Or.inr (r36.trans j36)⟩, fun _ jw => ?_⟩
  · rw [v2, dp0, x38, j38]
    omega
  · unfold LBC
    rw [v2, if_neg (by rw [g0]; decide), if_neg (by rw [g0]; decide)]
    exact lb
  · rw [r53, j53, v1]
    have := q1.1
    omega
  · rw [v2, v4, nGo.eq ng, t5, q1.2.1]
    omega
  · rw [v2, v5, nWl.eq nw, t7, q1.2.2]
    omega
  · have veq : vws X u' (c :: L) = vws S s (c :: L) := vws.eq (T := T) ((NMV.tbk tbq).2) (c :: L) hC.o3 (fun y hy => (hin.o ckall y hy).1) fq (fun y hy => by
      have w1 := wid1 (S.o y.2.1 0)
      have w2 := (hin y hy).2.2.1
      omega)
    show JRW A U B b (vw X u' c1 :: vws X u' (c :: L)) X u'
    rw [veq]
    obtain ⟨z1, z2, z3, z4, z5, z6, -⟩ := cad
    obtain ⟨o1', o2', o3', o4', o5', o6'⟩ := cop
    obtain ⟨l1, l2, l3, l4, l5, l6⟩ := ccl
    have ntp : x1.2.i 20 = p.2.i 20 := by
      unfold f_X0_newTarget at ex1
      cases ex1
      rfl
    have pa1 := psr.1.1
    have l19 := w3.l19
    have l11 := w3.l11
    have i13 : x13.2.i 50 = em.2.i 38 := w8.1.2.1.1.trans e38v
    exact JRW.ifs (C1 := y1.2) (C2 := y5.2) (C3 := y9.2) (z1 := r.2) (z2 := u) (z3 := sh.2) (jst.go jw (Or.inl rfl) hv.2.1.1) w0.1 ex1 ((z1.tr o1').wk (by omega) (by omega)) (fun a b => (z2 a b).tr (o2' a b)) (o4'.trans (z4.trans ntp)) (fun k => (z3 k).tr (o3' k)) (o6'.trans z6) (w0.nv.dif w3.nv) xc.1 w3.1 (w3.nv.dif w4.nv) w4.1 l1 l2 l4 l3 l6 (w4.nv.dif w5.nv) w5.1 p5 ex13 hem ((CD1.pe (b := 0) (peX.trans (ke_X6_push N x13.2 203 _ _ x17 ex17)) x21 (by rw [iX]; exact psr.2.1 50 (by decide) (by decide)) (by rw [aX, pa1]) (by rw [aX, pa1]) (by rw [iX, psr.2.1 44 (by decide) (by decide)]; omega)).wk (by omega) (by omega)) (fun _ _ => CT7.eq (by rw [aX, pa1])) (by rw [iX]; exact psr.2.1 20 (by decide) (by decide)) (fun _ => (CD2.qe qv).tr (CD2.qe qu)) ((qe_eq qu).1.1.trans (qe_eq qv).1.1) i13 (em38.dif (NMV.tbk tbq)) (show X.o c1.2.1 0 = 203 by rw [v2]; exact g0) (show X.o c1.2.1 10 = x1.1 by rw [v2]; exact oX) (show (vw X u' c1).2.1 66 = em.1 by rw [vw_at (k := 66) ⟨by decide, by decide⟩, v3]; exact u66') (r36.trans j36) (GKP.tbk tbq) ⟨by omega, by rw [u11]; omega⟩ ⟨by omega, by rw [iu 19 (by decide)]; omega⟩ (vws.pl1 hC v1)
