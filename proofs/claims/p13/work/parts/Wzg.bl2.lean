section
/-! both readers: { -/
theorem nGo.eq {v : Int32} (h : ¬ isGo v) : nGo v = 0 := by
  unfold nGo
  exact if_neg h
theorem nWl.eq {v : Int32} (h : ¬ isWl v) : nWl v = 0 := by
  unfold nWl
  exact if_neg h
set_option maxHeartbeats 4000000 in
theorem st_block {N : Nat} (hN : 1000 ≤ N) {d : Int32} {B : CS} {b : RS} {t0 T n : Nat} {L : List CEL} {x : Int} {S : CS} {s U : RS} {c : CEL} {p35 : Unit × CS} {p39 : Option Nat × CS} {A : JBA} (hC : COR d B b t0 (c :: L) x S s) (hS : STO c T S s) (hT : t0 ≤ T) (hm : NMC c S) (hx : S.o c.2.1 0 = 303 → x = -1) (h43 : S.i 43 = 123) (e35 : f_X1_open N (CS.setI (CS.setI S 36 1) 24 ((S.i 24) + 1)) 123 = some p35) (e39 : f_X6_push N p35.2 301 (p35.2.i 38) (p35.2.i 50) = some p39) (g : f_X12_parse_10 N n s = some U) : (¬ p39.2.i 32 = 0 ∧ ¬ U.i 15 = 0) ∨ ∃ (m : Nat) (u : RS), f_X12_parse_10 N m u = some U ∧ NEW d B b t0 c L p39.2 u (JTR A U B b (c :: L) S s) := by
  obtain ⟨q1, q2, q3, q4, q5, q6⟩ := id hS
  have hv := hC.1
  have hin := hC.inl q1 q3
  have k10 := (tk_is hv (a := 123) (b := 123) (Or.inl ⟨by decide, by decide⟩) (by decide)).mp h43
  obtain ⟨m1, V1, hV1, g1⟩ := rl_2 g q4 hv.1.2.1 q5
  unfold f_X12_stat at hV1
  rw [if_pos k10] at hV1
  obtain ⟨-, hV1⟩ := hf_ite hV1
  rw [tp_nat q4] at hV1
  cases hV1
  have ev1 := hv.stm (t := T) (K := 3)
  obtain ⟨fz, kz⟩ := stm_r (s := s) (t := T) (v := s.i 53 + 1) (K := 3)
  obtain ⟨zS, rS⟩ := stm_z S (S.i 24 + 1)
  obtain ⟨s1, hs1⟩ : ∃ y, y = RS.setA (RS.setI s 53 ((s.i 53) + 1)) 64 T 3 := ⟨_, rfl⟩
  obtain ⟨S1, hS1⟩ : ∃ y, y = CS.setI (CS.setI S 36 1) 24 ((S.i 24) + 1) := ⟨_, rfl⟩
  have i1 : ∀ k : Nat, k ≠ 53 → s1.i k = s.i k := by
    rw [hs1]
    exact fun k h => if_neg h
  have a64 : s1.a 64 T = 3 := by
    rw [hs1]
    exact setA_at
  have a65 : s1.a 65 T = 0 := by
    rw [hs1]
    exact q6
  have aq : ∀ k : Nat, k ≠ 64 → s1.a k = s.a k := by
    rw [hs1]
    exact fun k h => setA_nk h
  have iS : ∀ k : Nat, k ≠ 36 → k ≠ 24 → S1.i k = S.i k := by
    rw [hS1]
    exact fun k h1 h2 => (ci_ne _ _ _ h2).trans (ci_ne _ _ _ h1)
  have iS36 : S1.i 36 = 1 := by
    rw [hS1, ci_ne _ _ _ (by decide), ci_at]
  have oS : S1.o = S.o ∧ S1.ol = S.ol ∧ S1.r = S.r ∧ S1.a = S.a := by
    rw [hS1]
    exact ⟨rfl, rfl, rfl, rfl⟩
  have peS : pe S1 = pe S := by rw [hS1]; rfl
  have qs : qe s1 = qe s := by rw [hs1]; rfl
  rw [← hs1] at g1 ev1 fz kz
  rw [← hS1] at e35 ev1 zS rS
  clear hs1 hS1
  have t1 : tpI s1 = (T : Int) := by
    show (s1.i 63).toInt = (T : Int)
    rw [i1 63 (by decide)]
    exact q4
  obtain ⟨m2, V2, hV2, g2⟩ := rl_3 g1 t1 ev1.1.2.1 a64
  unfold f_X12_block at hV2
  obtain ⟨-, hV2⟩ := hf_ite hV2
  rw [tp_nat t1, if_pos a65] at hV2
  obtain ⟨q, hq, hV2⟩ := hf_bind hV2
  rw [ob_id] at hV2
  rcases y_open hN ev1 (c := 123) (d := 123) (Or.inl ⟨by decide, by decide⟩) (by decide) (by decide) (by decide) e35 hq with ⟨o1, o2, o3⟩ | ⟨o1, o2, o3, o4, o5, o6, o7, o8, o9, o10, o11, o12⟩
  · refine Or.inl ⟨by rw [kF_X6_push N p35.2 301 _ _ p39 e39 o2]; exact o2, u_flt g2 (krf_f_X12_then N _ 1 1 V2 hV2 (show ¬ (RS.setA q.2 66 T (q.2.i 38)).i 15 = 0 from o3))⟩
  have tq : tpI q.2 = (T : Int) := qj_63 o4 t1
  obtain ⟨hV', t99⟩ := r_then (s := RS.setA q.2 66 T (q.2.i 38)) tq hV2
  rw [hV'] at g2
  -- the class's row
  have ckp : CKX S1 p35.2 := CKX.of o5 o10 o11
  obtain ⟨mm, hmm, m38⟩ := RWI.few o3
  have p53 : p35.2.i 53 = S.i 53 := ckp.1.2.2.2.2.1.trans (iS 53 (by decide) (by decide))
  have em : mm = c.1 + 1 := by
    have a : (p35.2.i 53).toInt = (mm : Int) := hmm
    rw [p53] at a
    have := q1.1
    omega
  obtain ⟨a, ra, psr⟩ := y_push o3.ri.s hmm (by omega) e39
  have w35 := o3.ri
  have hmm' : (p35.2.i 53).toInt = (mm : Int) := hmm
  obtain ⟨sj1, sj2, sj3, sj4, sj5, sj6⟩ := id o3.sj
  have hi := i11_hi o3
  obtain ⟨zR, r53, r54, r55, r52, r21, r44⟩ := psr.z hmm' (by omega) ⟨sj1, by omega⟩
  obtain ⟨⟨b1, b2, b3⟩, j1, ⟨j53, j54⟩, rr1, rr2, rw3, nb, ob1, ⟨f0, f1, f3, fl⟩, ⟨f5, f6, f7, f8⟩, ⟨f9, f10, f11, f12, f14⟩⟩ := id psr
  have es : (cnI p35.2).toNat = mm := by
    show (p35.2.i 53).toInt.toNat = mm
    rw [hmm']
    exact Int.toNat_natCast _
  have nr := w35.2.2.2.1.2
  have iq := w35.2.2.2.2.1
  have wc := w35.2.2.2.2.2.1
  rw [es] at nr iq wc
  have rsq := psr.rsq (by omega)
  obtain ⟨u1, u2, u3, u4, u5⟩ := rsq.put nr rr1
  obtain ⟨iq2, wc2⟩ := iq.block rsq nr rr1 f0
  have sg : SGS p35.2 mm + 1 ≤ sgI p35.2 := by
    have z := ckp.sum ev1.ri
    rw [es] at z
    rw [z.1]
    have y := ev1.ri.2.2.2.2.2.2
    have x1 := ev1.2.2.1.1
    have x2 := o3.2.2.1.1
    unfold sgI at *
    rw [x1] at y
    rw [x2, o12]
    omega
  have sgn1 : sgn p39.2 a = 1 := by
    unfold sgn
    rw [if_neg (by rw [f0]; decide), if_pos (Or.inl f0)]
  have e44 : eI p39.2 = eI p35.2 := by
    unfold eI plI
    rw [j1 44 (by decide) (by decide), j1 43 (by decide) (by decide)]
  have e34 : sgI p39.2 = sgI p35.2 := by
    unfold sgI
    rw [j1 34 (by decide) (by decide)]
  have wR : RWI p39.2 := psr.ri w35 hmm' (by omega) iq2 (by rw [wc2, e44]; exact wc) (by rw [u2, sgn1, e34]; omega)
  -- rates
  have T21 := hC.2.2.2.2.2.2.2.2.1
  have p21 : p35.2.i 21 = S.i 21 := (pj_21 o5).trans (iS 21 (by decide) (by decide))
  have p54 : p35.2.i 54 = S.i 54 := (pj_54 o5).trans (iS 54 (by decide) (by decide))
  have l11 : (s.i 11).toInt + 1 ≤ (q.2.i 11).toInt := by
    rw [i1 11 (by decide)] at o7
    exact o7
  have evR : ENV d p39.2 q.2 := o3.psh psr wR (by rw [p54]; omega)
  obtain ⟨u, hu⟩ : ∃ y, y = TH (RS.setA q.2 66 T (q.2.i 38)) T 1 1 := ⟨_, rfl⟩
  have evu : ENV d p39.2 u := by rw [hu]; exact (setA_env (Or.inr (by omega)) evR).th
  have fu : FRB T q.2 u := by rw [hu]; exact (setA_frb (Or.inr ⟨by omega, by omega, Nat.le_refl _⟩)).tr TH.frb
  have ku : TBK q.2 u := by rw [hu]; exact (setA_tbk (by omega)).tr TH.tbk
  have iu : ∀ k : Nat, k ≠ 63 → u.i k = q.2.i k := by
    rw [hu]
    exact fun k h => if_neg h
  have u64 : u.a 64 T = 3 := by
    rw [hu, TH.fk0 (Nat.le_refl T)]
    show (RS.setA q.2 66 T (q.2.i 38)).a 64 T = 3
    rw [show (RS.setA q.2 66 T (q.2.i 38)).a 64 T = q.2.a 64 T from rfl, ((FRB.of o4 : FRB (T + 1) s1 q.2) T (by omega)).1]
    exact a64
  have u65 : u.a 65 T = 1 := by rw [hu]; exact TH.st
  have u66 : u.a 66 T = q.2.i 38 := by
    rw [hu]
    show (RS.setA q.2 66 T (q.2.i 38)).a 66 T = q.2.i 38
    exact setA_at
  have u641 : u.a 64 (T + 1) = 1 := by rw [hu]; exact TH.fk
  have u651 : u.a 65 (T + 1) = 0 := by rw [hu]; exact TH.fs
  have tu : tpI u = ((T + 1 : Nat) : Int) := by rw [hu]; exact TH.tp (u := RS.setA q.2 66 T (q.2.i 38)) tq (by omega)
  have pa : u.a 60 = q.2.a 60 ∧ u.a 61 = q.2.a 61 ∧ u.a 62 = q.2.a 62 := by
    rw [hu]
    exact ⟨rfl, rfl, rfl⟩
  have qu : qe u = qe q.2 := by rw [hu]; rfl
  rw [← hu] at g2
  clear hu hV'
  have q17 : (q.2.i 17).toInt = (s.i 17).toInt + 1 := by rw [o6, t17_up (N := N) ev1, i1 17 (by decide)]
  have pq : phI u = phI s + 3 := by
    unfold phI
    rw [iu 17 (by decide), iu 20 (by decide), o8, q17, i1 20 (by decide)]
    omega
  have tbq : TBK s u := (kz.tr (TBK.of o4 (by rw [o8]; exact Int.le_refl _) (fun j _ => by rw [o9]))).tr ku
  have fq : FRB T s u := (fz.tr (FRB.of o4)).tr fu
  obtain ⟨y1, y2, y3, y4, y5, y6, y7, y8, y9, y10⟩ := tbq.1.1
  have ckall : CKZ S p39.2 := by
    obtain ⟨c1, c2, c3, c4, c5, c6, c7, c8⟩ := zS
    obtain ⟨d1, d2, d3, d4, d5, d6, d7, d8⟩ := ckp.z
    obtain ⟨g1', g2', g3', g4', g5', g6', g7', g8'⟩ := zR
    have e53 : S1.i 53 = S.i 53 := iS 53 (by decide) (by decide)
    have e55 : p35.2.i 55 = S.i 55 := by
      have z := (pj_eq o5).2.2.2.2.2.2.2.2.2.2.2.2.2.2.2.2.1
      exact z.trans (iS 55 (by decide) (by decide))
    refine ⟨(g1'.trans d1).trans c1, fun k hk => ((g2' k (by rw [p53]; exact hk)).trans (d2 k (by rw [e53]; exact hk))).trans (c2 k hk), fun k a hk ha => ?_, fun k hk => ?_, by rw [p54] at g5'; exact g5', by rw [e55] at g6'; exact g6', fun k hk => ?_, fun k k1 k2 => ?_⟩
    · have e := c3 k a hk ha
      have e2 := d3 k a (by rw [e53]; exact hk) ((c2 k hk).trans ha)
      have e3 := g3' k a (by rw [p53]; exact hk) ((d2 k (by rw [e53]; exact hk)).trans ((c2 k hk).trans ha))
      exact ⟨(e3.1.trans e2.1).trans e.1, (e3.2.trans e2.2).trans e.2⟩
    · have i22 : S1.i 22 = S.i 22 := iS 22 (by decide) (by decide)
      exact ((g4' k (by rw [d1, i22]; exact hk)).trans (d4 k (by rw [i22]; exact hk))).trans (c4 k hk)
    · have i55 : S1.i 55 = S.i 55 := iS 55 (by decide) (by decide)
      exact ((g7' k (by rw [e55]; exact hk)).trans (d7 k (by rw [i55]; exact hk))).trans (c7 k hk)
    · rw [r55, e55] at k2
      omega
  have eo := (hin.o ckall c List.mem_cons_self).1
  have low : LOW p39.2 u c := q2.mv eo fq (by omega)
  have ng : ¬ isGo (p39.2.o a 0) := by
    unfold isGo
    rw [f0]
    decide
  have nt : ¬ isTy (p39.2.o a 0) := by
    unfold isTy
    rw [f0]
    decide
  have nw : ¬ isWl (p39.2.o a 0) := by
    unfold isWl
    rw [f0]
    decide
  have no1 : ¬ isOne (p39.2.o a 0) := by
    unfold isOne
    rw [f0]
    decide
  have wd : wid (p39.2.o a 0) = 2 := by
    rw [f0]
    rfl
  have dp0 : nDp (p39.2.o a 0) = 0 := by
    rw [f0]
    rfl
  have db0 : dbt (p39.2.o a 0) = 0 := by
    rw [f0]
    rfl
  obtain ⟨x59, x60, x61, x62, -⟩ := qj_p o4
  have jq := hC.2.2.1
  obtain ⟨-, -, -, -, -, -, j7, -⟩ := jq
  obtain ⟨k1, k2, k3, k4, k5⟩ := j7 c List.mem_cons_self
  have p55 : p35.2.i 55 = S.i 55 := ((pj_eq o5).2.2.2.2.2.2.2.2.2.2.2.2.2.2.2.2.1).trans (iS 55 (by decide) (by decide))
  have p50 : p35.2.i 50 = S.i 50 := ckp.1.2.2.2.1.trans (iS 50 (by decide) (by decide))
  have p38 : p35.2.i 38 = S.i 38 := ckp.1.2.2.1.trans (iS 38 (by decide) (by decide))
  have p56 : p35.2.i 56 = S.i 56 := ckp.1.2.2.2.2.2.trans (iS 56 (by decide) (by decide))
  have p36 : p35.2.i 36 = 1 := ckp.1.2.1.trans iS36
  have o1i : (p39.2.o a 1).toInt = (S.i 54).toInt + 1 := by
    rw [f1, ← j54, r54, p54]
  have iar : IAR p39.2 u := by
    obtain ⟨⟨z1, z2⟩, z3⟩ := hC.2.2.2.2.2.2.2.2.2.1
    have e56 : p39.2.i 56 = S.i 56 := (j1 56 (by decide) (by decide)).trans p56
    unfold IAR
    rw [e56, y5]
    refine ⟨⟨fun z => ?_, fun z => ?_⟩, fun z => ?_⟩
    · obtain ⟨g, w1, w2⟩ := z1 z
      exact ⟨g, w1, (tbq.1.2.2.1 g w1).1.trans w2⟩
    · obtain ⟨g, w1, w2⟩ := z
      exact z2 ⟨g, w1, (tbq.1.2.2.1 g w1).1.symm.trans w2⟩
    · obtain ⟨w1, w2, a', w3⟩ := z3 z
      exact ⟨by rw [r53, p53]; omega, w2, a', (ckall.2.1 _ (by omega)).trans w3⟩
  have lb : LBC p39.2 u (c :: L) (-1) := by
    have z := hC.2.2.2.1
    have z2 : LBC S s (c :: L) (-1) := by
      by_cases w : S.o c.2.1 0 = 303
      · rw [hx w] at z
        exact z
      · exact z.no w
    exact LBC.mv (c :: L) (-1) z2 (fun y hy => (hin.o ckall y hy).1) (fun y hy w => (tbq.1.2.2.1 (ceG y) ((hin y hy).2.2.2.1 (Or.inl w))).2.2.1)
  obtain ⟨c1, hc1⟩ : ∃ c1 : CEL, c1 = (c.1 + 1, a, T, ceG c + nGo (S.o c.2.1 0), ceW c + nWl (S.o c.2.1 0)) := ⟨_, rfl⟩
  have v1 : c1.1 = c.1 + 1 := by rw [hc1]
  have v2 : c1.2.1 = a := by rw [hc1]
  have v3 : ceT c1 = T := by rw [hc1]; rfl
  have v4 : ceG c1 = ceG c + nGo (S.o c.2.1 0) := by rw [hc1]; rfl
  have v5 : ceW c1 = ceW c + nWl (S.o c.2.1 0) := by rw [hc1]; rfl
  clear hc1
  have rte : RTE S p39.2 := by
    have z44 : S.i 44 = s.i 11 := hv.1.2.2.2.1.1
    have z45 : p39.2.i 44 = u.i 11 := evu.1.2.2.2.1.1
    unfold RTE
    rw [z44, z45, r21, p21, r54, p54, r55, p55, iu 11 (by decide)]
    omega
  have u11 : u.i 11 = q.2.i 11 := iu 11 (by decide)
  have hcol : ∃ col : Nat → Option (Nat × Bool), COL p39.2 u (c1 :: c :: L) col (b.i 20).toInt := by
    obtain ⟨-, -, b0, col, hc⟩ := hC.2.2.2.2.2.2.2.2.2.2
    refine ⟨col, (hc.mv b0 hin ckall fq tbq.1.r tbq.2).add ?_ ?_ ?_⟩
    · rw [v2]
      exact ng
    · rw [v2, f0]
      decide
    · intro k z
      unfold PLF at z
      rw [v2, f0] at z
      rcases z with ⟨z | z, -⟩ | ⟨z, -⟩ | ⟨z | z, -⟩ <;> exact absurd z (by decide)
  have nms := o3.2.1.1
  have e52 : p35.2.a 52 = S.a 52 := by
    rw [(pj_eq o5).2.2.2.2.2.2.2.2.2.2.2.2.2.2.2.2.2.2.2.2.2.2.1, oS.2.2.2]
  refine Or.inr ⟨m2, u, g2, c1, hC.push hin hT evu fq tbq.1.r tbq.2 ⟨y1, y2, y3, y8, y9, y10⟩ (by rw [y5]; exact Int.le_refl _) (by rw [y7]; exact Int.le_refl _) ckall hC.2.2.1 hin (fun y hy => (hin.o ckall y hy).1) fq (fun y hy z v => by
    have w := tbq.1.2.2.1 (ceG y) ((hin y hy).2.2.2.1 z)
    unfold flg
    rw [w.2.2.2.2.1, w.2.2.2.2.2.1]) hC.jp.1 hC.jp.2 (by rw [r54, p54]) (r55.trans p55) (r52.trans e52) ?_ (by rw [r53, p53]; omega) rte ⟨by rw [u11]; omega, by rw [v2, db0]; omega, by rw [iu 17 (by decide)]; omega, by rw [v2, f0, iu 19 (by decide)]; show (q.2.i 19).toInt = (s.i 19).toInt + 1; rw [o12, i1 19 (by decide)]⟩ (by rw [r54, p54, u11]; omega) (by rw [r21, p21, u11]; omega) (by rw [y4, u11]; omega) (by rw [y4]; exact Int.le_refl _) ((iu 59 (by decide)).trans (x59.trans (i1 59 (by decide)))) (pa.1.trans (x60.trans (aq 60 (by decide)))) (pa.2.1.trans (x61.trans (aq 61 (by decide)))) (pa.2.2.trans (x62.trans (aq 62 (by decide)))) (CST.pl (by rw [v1, v2, ← em]; exact rr1) (by rw [v1]; omega) (by rw [v2, v3]; exact RFR.m301 f0 ⟨⟨u64, u65, u641⟩, by rw [u66, f3]; exact nms.symm⟩) (by rw [v2, f0]; decide) (by rw [v2]; exact nt)) ⟨v1, by rw [v3, eo]; exact q3, by rw [v4, eo], by rw [v5, eo], by rw [v2, eo, o1i]; omega, by rw [v2, eo, f14, p55]; exact k4, fun w => by rw [v2, eo, f14, p55]; rw [eo] at w; exact (k5 w).2, fun w1 w2 w3 => by rw [v2, eo, f3, p50]; rw [eo] at w1 w2 w3; exact hm w1 w2 w3, by rw [v2, f0]; unfold isKS isOne isTy; decide⟩ low ?_ iar hcol (by rw [v2]; exact o1i) (by rw [v2, f14]; exact p55) (by rw [v2, f0]; decide) (fun w => absurd w (by rw [v2]; exact ng)) (fun w => absurd w (by rw [v2]; exact nt)) ((j1 56 (by decide) (by decide)).trans p56) (by rw [v2, f3]; exact p50), ⟨?_, ?_, ?_⟩, ⟨Or.inl ⟨by rw [v2]; exact no1, by rw [v2, f0]; decide, ?_, ?_, Or.inl ⟨?_, ?_⟩, fun w => absurd w (by rw [v2, f0]; decide)⟩, Or.inr ?_⟩, fun _ jw => ?_⟩
  · rw [v2, dp0, j1 38 (by decide) (by decide), p38]
    omega
  · unfold LBC
    rw [v2, if_neg (by rw [f0]; decide), if_neg (by rw [f0]; decide)]
    exact lb
  · rw [r53, p53, v1]
    have := q1.1
    omega
  · rw [v2, v4, nGo.eq ng, y5, q1.2.1]
    omega
  · rw [v2, v5, nWl.eq nw, y7, q1.2.2]
    omega
  · rw [v2, v3, wd, tu]
    omega
  · rw [v2, v3, wd]
    exact u641
  · rw [v2, v3, wd]
    exact u651
  · exact (j1 36 (by decide) (by decide)).trans p36
  · exact (j1 36 (by decide) (by decide)).trans p36
  · have veq : vws p39.2 u (c :: L) = vws S s (c :: L) := vws.eq (T := T) ((NMV.tbk tbq).2) (c :: L) hC.o3 (fun r hr => (hin.o ckall r hr).1) fq (fun r hr => by
      have z1 := (hin r hr).2.2.1
      have z3 := wid1 (S.o r.2.1 0)
      omega)
    show JRW A U B b (vw p39.2 u c1 :: vws p39.2 u (c :: L)) p39.2 u
    rw [veq]
    obtain ⟨z1, z2, z3, z4, -, z6⟩ := tok_cd ev1 o3 o5 (ke_X1_open N S1 123 p35 e35) (kre_f_X12_open N s1 123 q hq) o7
    have kp := ke_X6_push N p35.2 301 _ _ p39 e39
    have cS : CD1 (-0) (-0) S S1 := CD1.pe (b := 0) peS (iS 21 (by decide) (by decide)) (iS 50 (by decide) (by decide)) (by rw [oS.2.2.2]) (by rw [oS.2.2.2]) (by rw [iS 44 (by decide) (by decide)]; omega)
    have cP : CD1 (-0) (-0) p35.2 p39.2 := CD1.pe (b := 0) kp (j1 21 (by decide) (by decide)) (j1 50 (by decide) (by decide)) (by rw [b1]) (by rw [b1]) (by rw [j1 44 (by decide) (by decide)]; omega)
    exact jw.psh (r := vw p39.2 u c1) (show p39.2.o c1.2.1 0 = 301 by rw [v2]; exact f0) ((cS.tr z1).tr cP) (by omega) (by omega) (fun a b => ((CT7.eq (by rw [oS.2.2.2])).tr (z2 a b)).tr (CT7.eq (pe_eq kp).2.2.2.1)) (fun k => ((CD2.qe qs).tr (z3 k)).tr (CD2.qe qu)) ((pe_eq kp).1.trans (z4.trans (iS 20 (by decide) (by decide)))) ((qe_eq qu).1.1.trans (z6.trans (i1 20 (by decide)))) hv.2.1.1 (NMV.tbk tbq) ((j1 36 (by decide) (by decide)).trans p36) (GKP.tbk tbq) (by rw [u11]; omega) (by rw [iu 19 (by decide), o12, i1 19 (by decide)]; omega) (vws.pl1 hC v1)
end
section
/-! both readers: statements that end in their turn, in a row -/
def DN (d : Int32) (B : CS) (b : RS) (t0 T : Nat) (c : CEL) (L : List CEL) (x : Int) (R : CS) (u : RS) : Prop := COR d B b t0 (c :: L) x R u ∧ TOP R u c ∧ LOW R u c ∧ tpI u = (T : Int) - 1 ∧ (u.i 75 = R.i 36 ∧ (R.i 36 = 0 ∨ R.i 36 = 1)) ∧ T = ceT c + wid (R.o c.2.1 0)
theorem CKZ.tr {S P R : CS} (h : CKZ S P) (e53 : P.i 53 = S.i 53) (g : CKZ P R) : CKZ S R := by
  obtain ⟨c1, c2, c3, c4, c5, c6, c7, c8⟩ := h
  obtain ⟨d1, d2, d3, d4, d5, d6, d7, d8⟩ := g
  refine ⟨d1.trans c1, fun k hk => (d2 k (by rw [e53]; exact hk)).trans (c2 k hk), fun k a hk ha => ?_, fun k hk => (d4 k (by rw [c1]; exact hk)).trans (c4 k hk), by omega, by omega, fun k hk => (d7 k (by omega)).trans (c7 k hk), fun k k1 k2 => ?_⟩
  · have e := c3 k a hk ha
    have g := d3 k a (by rw [e53]; exact hk) ((c2 k hk).trans ha)
    exact ⟨g.1.trans e.1, g.2.trans e.2⟩
  · by_cases z : (k : Int) < (P.i 55).toInt
    · rw [d7 k z]
      rcases c8 k k1 z with y | y
      · exact Or.inl y
      · exact Or.inr ⟨y.1, by omega⟩
    · rcases d8 k (by omega) k2 with y | y
      · exact Or.inl y
      · exact Or.inr ⟨by omega, y.2⟩
/-- the class's step, the reference's sort and its step -/
theorem st_k {N : Nat} {d : Int32} {B : CS} {b : RS} {t0 T n : Nat} {L : List CEL} {x : Int} {S : CS} {s U : RS} {c : CEL} {K : Int32} {P : CS → RS → Prop} {Q : RS → CS → RS → CS → RS → Prop} {A : JBA} {F : CS → Option (Unit × CS)} {p R : Unit × CS} (hF : SXD N K P Q F) (k2 : ¬ K = 2) (k5 : ¬ K = 5) (hC : COR d B b t0 (c :: L) x S s) (hS : STO c T S s) (hT : t0 ≤ T) (hP : ∀ (S2 : CS) (s2 : RS), S2.i 43 = S.i 43 → s2.i 38 = s.i 38 → S2.i 21 = S.i 21 → S2.i 56 = S.i 56 → S2.i 53 = S.i 53 → S2.r = S.r → s2.i 11 = s.i 11 → s2.i 43 = s.i 43 → s2.a 44 = s.a 44 → P S2 s2) (hst : ∀ V : RS, f_X12_stat N s (s.i 63) = some V → f_X12_stat_240 N (RS.setA (RS.setI s 53 ((s.i 53) + 1)) 64 T K) (s.i 63) = some V) (e1 : f_X0_add N (CS.setI (CS.setI S 36 1) 24 ((S.i 24) + 1)) 51 0 = some p) (e2 : F p.2 = some R) (hQ : ∀ (P : CS) (y : RS) (u : RS), ENV d P y → DON d T P y R.2 u → KU3 U y → Q U P y R.2 u → (P.i 56 = S.i 56 ∧ P.r = S.r ∧ P.o = S.o) → (y.i 43 = s.i 43 ∧ y.a 44 = s.a 44 ∧ y.a 47 = s.a 47) → JOK A (vws S s (c :: L)) U P y R.2 u) (g : f_X12_parse_10 N n s = some U) : (¬ R.2.i 32 = 0 ∧ ¬ U.i 15 = 0) ∨ ∃ (m : Nat) (u : RS), f_X12_parse_10 N m u = some U ∧ DN d B b t0 T c L x R.2 u ∧ (∃ (P : CS) (y : RS), y.i 38 = s.i 38 ∧ Q U P y R.2 u) ∧ R.2.o c.2.1 = S.o c.2.1 ∧ (KU3 U s → JRW A U B b (vws S s (c :: L)) S s → JRW A U B b (vws R.2 u (c :: L)) R.2 u) := by
  obtain ⟨q1, q2, q3, q4, q5, q6⟩ := id hS
  have hv := hC.1
  obtain ⟨m1, V1, hV1, g1⟩ := rl_2 g q4 hv.1.2.1 q5
  have hV2 := hst V1 hV1
  have ph3 : 3 ≤ phI s := by
    have a := hC.2.2.2.2.2.2.1.2.1
    have b := (PDM.ge S (c :: L)).1
    have e := hC.2.2.2.2.2.2.2.2.2.2.2.1
    omega
  have ev1 := hv.stm (t := T) (K := K)
  obtain ⟨fz, kz⟩ := stm_r (s := s) (t := T) (v := s.i 53 + 1) (K := K)
  obtain ⟨zS, rS⟩ := stm_z S (S.i 24 + 1)
  obtain ⟨s1, hs1⟩ : ∃ y, y = RS.setA (RS.setI s 53 ((s.i 53) + 1)) 64 T K := ⟨_, rfl⟩
  obtain ⟨S1, hS1⟩ : ∃ y, y = CS.setI (CS.setI S 36 1) 24 ((S.i 24) + 1) := ⟨_, rfl⟩
  have i1 : ∀ k : Nat, k ≠ 53 → s1.i k = s.i k := by
    rw [hs1]
    exact fun k h => if_neg h
  have a64 : s1.a 64 T = K := by
    rw [hs1]
    exact setA_at
  have aq : ∀ k : Nat, k ≠ 64 → s1.a k = s.a k := by
    rw [hs1]
    exact fun k h => setA_nk h
  have iS : ∀ k : Nat, k ≠ 36 → k ≠ 24 → S1.i k = S.i k := by
    rw [hS1]
    exact fun k h1 h2 => (ci_ne _ _ _ h2).trans (ci_ne _ _ _ h1)
  have iS36 : S1.i 36 = 1 := by
    rw [hS1, ci_ne _ _ _ (by decide), ci_at]
  have rS1 : S1.r = S.r := by rw [hS1]; rfl
  have oS1 : S1.o = S.o := by rw [hS1]; rfl
  have peS : pe S1 = pe S := by rw [hS1]; rfl
  have aS : S1.a = S.a := by rw [hS1]; rfl
  have qs : qe s1 = qe s := by rw [hs1]; rfl
  rw [← hs1] at hV2 ev1 fz kz
  rw [← hS1] at e1 ev1 zS rS
  clear hs1 hS1
  have t1 : tpI s1 = (T : Int) := by
    show (s1.i 63).toInt = (T : Int)
    rw [i1 63 (by decide)]
    exact q4
  have p1 : phI s1 = phI s := by
    unfold phI
    rw [i1 17 (by decide), i1 20 (by decide)]
  unfold f_X12_stat_240 at hV2
  obtain ⟨-, hV2⟩ := hf_ite hV2
  rw [tp_nat q4, a64, if_neg k2, if_neg k5] at hV2
  obtain ⟨y, hy, hV2⟩ := hf_bind hV2
  cases hV2
  obtain ⟨n1, n2, n3, n4, n5, n6, n7, n8, n9, n10', n11⟩ := y_emit ev1 t1 (by omega) hy
  obtain ⟨a1, ck1, i43, i21⟩ := y_add n1 e1
  have y64 : y.2.a 64 T = K := (n3 (T + 1) T (by omega)).1.trans a64
  have y65 : y.2.a 65 T = 0 := (n3 (T + 1) T (by omega)).2.1.trans (by rw [aq 65 (by decide)]; exact q6)
  have kp := pj2_eq (kd_X0_add N S1 51 0 p e1)
  have qz9 := (qj2_eq (em_env ev1 (by omega) hy).2.2.1).1
  have y47 : y.2.a 47 = s1.a 47 := by
    obtain ⟨-, -, -, -, -, -, -, -, -, -, -, -, -, -, -, -, -, -, -, -, -, -, -, -, -, -, -, -, -, -, -, a47, -⟩ := qj_eq qz9
    exact a47
  have pe := pj_eq kp.1
  have pr : P p.2 y.2 := hP p.2 y.2 (i43.trans (iS 43 (by decide) (by decide))) (n4.1.1.2.2.2.1.trans (i1 38 (by decide))) (i21.trans (iS 21 (by decide) (by decide))) (ck1.1.2.2.2.2.2.trans (iS 56 (by decide) (by decide))) (ck1.1.2.2.2.2.1.trans (iS 53 (by decide) (by decide))) (pe.2.2.2.2.2.2.2.2.2.2.2.2.2.2.2.2.2.2.2.2.2.2.2.1.trans rS1) (n8.trans (i1 11 (by decide))) (n4.1.1.2.2.2.2.1.trans (i1 43 (by decide))) (by
    have z := (qj2_eq (em_env ev1 (by omega) hy).2.2.1).1
    rw [qj_44 z, aq 44 (by decide)])
  rcases hF d p.2 y.2 U m1 T R a1 pr (ck1.1.2.1.trans iS36) n2 y64 y65 (by omega) e2 g1 with z | ⟨m2, u, g2, dn, x38⟩
  · exact Or.inl z
  · have e54 : p.2.i 38 = S.i 38 ∧ p.2.i 53 = S.i 53 ∧ p.2.i 56 = S.i 56 := ⟨ck1.1.2.2.1.trans (iS 38 (by decide) (by decide)), ck1.1.2.2.2.2.1.trans (iS 53 (by decide) (by decide)), ck1.1.2.2.2.2.2.trans (iS 56 (by decide) (by decide))⟩
    have z2 : CKZ S p.2 ∧ RTE S p.2 := by
      obtain ⟨c1, c2, c3, c4, c5, c6, c7, c8⟩ := zS
      obtain ⟨d1, d2, d3, d4, d5, d6, d7, d8⟩ := ck1.z
      have e53 : S1.i 53 = S.i 53 := iS 53 (by decide) (by decide)
      have j22 : S1.i 22 = S.i 22 := iS 22 (by decide) (by decide)
      have j55 : S1.i 55 = S.i 55 := iS 55 (by decide) (by decide)
      have j54 : S1.i 54 = S.i 54 := iS 54 (by decide) (by decide)
      refine ⟨⟨d1.trans c1, fun k hk => (d2 k (by rw [e53]; exact hk)).trans (c2 k hk), fun k a hk ha => ?_, fun k hk => (d4 k (by rw [j22]; exact hk)).trans (c4 k hk), by omega, by omega, fun k hk => (d7 k (by rw [j55]; exact hk)).trans (c7 k hk), fun k k1 k2 => by rw [← j54]; exact d8 k (by rw [j55]; exact k1) k2⟩, ?_⟩
      · have e := c3 k a hk ha
        have g := d3 k a (by rw [e53]; exact hk) ((c2 k hk).trans ha)
        exact ⟨g.1.trans e.1, g.2.trans e.2⟩
      · have r2 : RTE S1 p.2 := ck1.2.2.2.2.2.2.2.2
        unfold RTE at *
        omega
    have dd := st_done hC hS hT (fz.tr (n3 T)) (kz.tr n4) z2.1 e54 z2.2 ⟨by rw [n8, i1 11 (by decide)]; exact Int.le_refl _, by rw [n9, i1 17 (by decide)]; exact Int.le_refl _, by rw [n10', i1 19 (by decide)], by omega⟩ dn
    have eo := ((hC.inl q1 q3).o (z2.1.tr e54.2.1 dn.2.2.2.2.2.2.1) c List.mem_cons_self).1
    refine Or.inr ⟨m2, u, g2, dd, ⟨p.2, y.2, by rw [n4.1.1.2.2.2.1, i1 38 (by decide)], x38⟩, eo, fun ku jw => ?_⟩
    have hin := hC.inl q1 q3
    have veq : vws R.2 u (c :: L) = vws S s (c :: L) := vws.eq (T := T) (fun j hj => ((dn.2.2.2.1.1 j (by rw [(NMV.tbk n4).1, i1 38 (by decide)]; exact hj)).2.1).trans ((NMV.tr (s := s) ⟨i1 38 (by decide), fun j _ => by rw [aq 40 (by decide)]⟩ (NMV.tbk n4)).2 j hj)) (c :: L) hC.o3 (fun r hr => (hin.o (z2.1.tr e54.2.1 dn.2.2.2.2.2.2.1) r hr).1) ((fz.tr (n3 T)).tr dn.2.2.1) (fun r hr => by
      have z1 := (hin r hr).2.2.1
      have z3 := wid1 (S.o r.2.1 0)
      omega)
    rw [veq]
    have cS : CD1 0 0 S S1 := (CD1.pe (b := 0) peS (iS 21 (by decide) (by decide)) (iS 50 (by decide) (by decide)) (by rw [aS]) (by rw [aS]) (by rw [iS 44 (by decide) (by decide)]; omega)).wk (by omega) (by omega)
    have y3 : y.2.i 3 = s.i 3 := n4.1.1.2.1.trans (i1 3 (by decide))
    have ok := hQ p.2 y.2 u a1 dn ⟨ku.1.trans y3.symm, ku.2⟩ x38 ⟨e54.2.2, pe.2.2.2.2.2.2.2.2.2.2.2.2.2.2.2.2.2.2.2.2.2.2.2.1.trans rS1, pe.2.2.2.2.2.2.2.2.2.2.2.2.2.2.2.2.2.2.2.2.2.2.2.2.1.trans oS1⟩ ⟨n4.1.1.2.2.2.2.1.trans (i1 43 (by decide)), by rw [qj_44 qz9, aq 44 (by decide)], by rw [y47, aq 47 (by decide)]⟩
    have l11 := dn.2.2.2.2.2.2.2.2.2.1.1
    have l19 := dn.2.2.2.2.2.2.2.2.2.1.2.2.2
    exact jw.sim ev1 (by omega) cS (fun _ _ => CT7.eq (by rw [aS])) (fun _ => CD2.qe qs) (iS 20 (by decide) (by decide)) (i1 20 (by decide)) hv.2.1.1 hC.2.2.2.2.2.1.2.1.1 ⟨i1 38 (by decide), fun j _ => by rw [aq 40 (by decide)]⟩ e1 hy ⟨by rw [n10', i1 19 (by decide)]; exact Int.le_refl _, by rw [l19, n10', i1 19 (by decide)]; exact Int.le_refl _⟩ ok ⟨by rw [n8, i1 11 (by decide)]; exact Int.le_refl _, by rw [n8, i1 11 (by decide)] at l11; omega⟩ ((GKP.tbk (kz.tr n4)).tr (GKP.tbr dn.2.2.2.1 (by rw [dn.2.2.2.2.2.1.2.2.2.1]; exact Int.le_refl _)))
end
section
/-! both readers: where a jump goes: the class's rows -/
/-- the rows of the list lie one below the other, down to the base -/
def BSE (S : CS) : List CEL → Prop
  | [] => False
  | [c] => S.r 51 c.1 = some c.2.1 ∧ c.1 < 400 ∧ (c.1 : Int) < (S.i 53).toInt ∧ (((c.1 : Int) = (S.i 56).toInt ∧ S.o c.2.1 0 = 302) ∨ (c.1 = 0 ∧ (S.i 56).toInt = -1 ∧ S.o c.2.1 0 = 300))
  | c :: c0 :: L => S.r 51 c.1 = some c.2.1 ∧ c.1 < 400 ∧ (c.1 : Int) < (S.i 53).toInt ∧ c.1 = c0.1 + 1 ∧ BSE S (c0 :: L)
theorem BSE.lo {S : CS} : ∀ (L : List CEL) (c : CEL), BSE S (c :: L) → (S.i 56).toInt ≤ (c.1 : Int) ∧ ∀ y ∈ c :: L, y.1 ≤ c.1
  | [], c, h => by
    obtain ⟨-, -, -, h⟩ := h
    refine ⟨by omega, fun y hy => ?_⟩
    rcases List.mem_cons.mp hy with rfl | hy
    · exact Nat.le_refl _
    · exact absurd hy List.not_mem_nil
  | c0 :: L, c, h => by
    obtain ⟨-, -, -, h1, h2⟩ := h
    obtain ⟨g1, g2⟩ := BSE.lo L c0 h2
    refine ⟨by omega, fun y hy => ?_⟩
    rcases List.mem_cons.mp hy with rfl | hy
    · exact Nat.le_refl _
    · have := g2 y hy
      omega
/-- the first of the list, from the top, that is meant -/
def FNS (p : CEL → Prop) (L : List CEL) (r : Int32) : Prop := (r = -1 ∧ ∀ c ∈ L, ¬ p c) ∨ ∃ c ∈ L, p c ∧ r.toInt = (c.1 : Int) ∧ ∀ y ∈ L, c.1 < y.1 → ¬ p y
theorem FNS.skip {p : CEL → Prop} {c : CEL} {L : List CEL} {r : Int32} (h : FNS p L r) (n : ¬ p c) (hl : ∀ y ∈ L, y.1 < c.1) : FNS p (c :: L) r := by
  rcases h with ⟨h1, h2⟩ | ⟨y, h1, h2, h3, h4⟩
  · refine Or.inl ⟨h1, fun z hz => ?_⟩
    rcases List.mem_cons.mp hz with rfl | hz
    · exact n
    · exact h2 z hz
  · refine Or.inr ⟨y, List.mem_cons_of_mem _ h1, h2, h3, fun z hz l => ?_⟩
    rcases List.mem_cons.mp hz with rfl | hz
    · exact n
    · exact h4 z hz l
theorem FNS.here {p : CEL → Prop} {c : CEL} {L : List CEL} {r : Int32} (h : p c) (hr : r.toInt = (c.1 : Int)) (hl : ∀ y ∈ c :: L, y.1 ≤ c.1) : FNS p (c :: L) r := Or.inr ⟨c, List.mem_cons_self, h, hr, fun y hy l => by
  have := hl y hy
  omega⟩
theorem row_at {N : Nat} {S : CS} {x : Int32} {c a : Nat} {P : Option Nat × CS} (hx : x.toInt = (c : Int)) (h1 : S.r 51 c = some a) (h4 : c < 400) (h5 : (c : Int) < (S.i 53).toInt) (e : f_X6_row N S x = some P) : P = (some a, S) := by
  obtain ⟨r1, r2⟩ := e_row e
  rcases r2 with ⟨-, -, -, y⟩ | ⟨y, -⟩
  · rw [hx, Int.toNat_natCast, h1] at y
    have : P = (P.1, P.2) := rfl
    rw [this, y, r1]
  · omega
theorem y_nearC {N : Nat} {S : CS} {x1 : Int32} : ∀ (n : Nat) (L : List CEL) (c : CEL) (x2 : Int32) (P : Int32 × CS), BSE S (c :: L) → x2.toInt = (c.1 : Int) → f_X6_nearest_7 N n S x1 x2 = some P → P.2 = S ∧ FNS (fun y => (S.o y.2.1 0 = 205 ∨ S.o y.2.1 0 = 206 ∨ S.o y.2.1 0 = 207 ∨ S.o y.2.1 0 = 304) ∨ (x1 = 0 ∧ S.o y.2.1 0 = 218)) (c :: L) P.1
  | 0, _, _, _, _, _, _, e => by cases e
  | n + 1, L, c, x2, P, hB, hx, e => by
    have e' : b_X6_nearest_7 N (f_X6_nearest_7 N n) S x1 x2 = some P := e
    unfold b_X6_nearest_7 at e'
    have bl := BSE.lo L c hB
    have em : (-1 : Int32).toInt = -1 := by decide
    by_cases st : x2 ≤ S.i 56
    · rw [if_pos st] at e'
      cases e'
      have st' := le_int st
      cases L with
      | nil =>
        obtain ⟨-, -, -, h⟩ := hB
        refine ⟨rfl, Or.inl ⟨rfl, fun y hy => ?_⟩⟩
        rcases List.mem_cons.mp hy with rfl | hy
        · rcases h with ⟨-, h⟩ | ⟨-, -, h⟩ <;> rintro ((z | z | z | z) | ⟨-, z⟩) <;> rw [h] at z <;> exact absurd z (by decide)
        · exact absurd hy List.not_mem_nil
      | cons c0 L =>
        obtain ⟨-, -, -, h1, h2⟩ := hB
        have := (BSE.lo L c0 h2).1
        omega
    · rw [if_neg st] at e'
      have st' := lt_int (Int32.not_le.mp st)
      have g : S.r 51 c.1 = some c.2.1 ∧ c.1 < 400 ∧ (c.1 : Int) < (S.i 53).toInt := by
        cases L with
        | nil => exact ⟨hB.1, hB.2.1, hB.2.2.1⟩
        | cons c0 L => exact ⟨hB.1, hB.2.1, hB.2.2.1⟩
      obtain ⟨q, eq, e'⟩ := hf_bind e'
      have hq := row_at hx g.1 g.2.1 g.2.2 eq
      rw [hq] at e'
      have x21 : (x2 + (-1)).toInt = x2.toInt - 1 := by rw [toInt_add] <;> rw [em] <;> omega
      -- the row is not meant
      have next : f_X6_nearest_7 N n S x1 (x2 + (-1)) = some P → ¬ ((S.o c.2.1 0 = 205 ∨ S.o c.2.1 0 = 206 ∨ S.o c.2.1 0 = 207 ∨ S.o c.2.1 0 = 304) ∨ (x1 = 0 ∧ S.o c.2.1 0 = 218)) → P.2 = S ∧ FNS (fun y => (S.o y.2.1 0 = 205 ∨ S.o y.2.1 0 = 206 ∨ S.o y.2.1 0 = 207 ∨ S.o y.2.1 0 = 304) ∨ (x1 = 0 ∧ S.o y.2.1 0 = 218)) (c :: L) P.1 := fun ek nm => by
        cases L with
        | nil =>
          obtain ⟨-, -, -, h⟩ := hB
          cases n with
          | zero => cases ek
          | succ n =>
            have ek' : b_X6_nearest_7 N (f_X6_nearest_7 N n) S x1 (x2 + (-1)) = some P := ek
            unfold b_X6_nearest_7 at ek'
            rw [if_pos (show x2 + (-1) ≤ S.i 56 by rw [Int32.le_iff_toInt_le]; omega)] at ek'
            cases ek'
            refine ⟨rfl, Or.inl ⟨rfl, fun y hy => ?_⟩⟩
            rcases List.mem_cons.mp hy with rfl | hy
            · exact nm
            · exact absurd hy List.not_mem_nil
        | cons c0 L =>
          obtain ⟨-, -, -, h1, h2⟩ := hB
          obtain ⟨r1, r2⟩ := y_nearC n L c0 (x2 + (-1)) P h2 (by omega) ek
          refine ⟨r1, r2.skip nm (fun y hy => ?_)⟩
          have := (BSE.lo L c0 h2).2 y hy
          omega
      have e2 : (if oK S c.2.1 0 then (f_X5_isLoop N S c.2.1).bind fun p10 => (if p10.1 = 0 then (if x1 = 0 then if oK p10.2 c.2.1 0 then (if (CS.o p10.2 c.2.1 0) = 218 then f_X6_nearest_46 N p10.2 x2 else f_X6_nearest_7 N n p10.2 x1 (x2 + (-1))) else none else f_X6_nearest_7 N n p10.2 x1 (x2 + (-1))) else f_X6_nearest_46 N p10.2 x2) else none) = some P := e'
      obtain ⟨ok1, e2⟩ := hf_ite e2
      obtain ⟨l, el, e2⟩ := hf_bind e2
      unfold f_X5_isLoop f_X5_isLoop_40 at el
      obtain ⟨-, el⟩ := hf_ite el
      unfold f_X6_nearest_46 at e2
      have loop : l = (1, S) → (S.o c.2.1 0 = 205 ∨ S.o c.2.1 0 = 206 ∨ S.o c.2.1 0 = 207 ∨ S.o c.2.1 0 = 304) → P.2 = S ∧ FNS (fun y => (S.o y.2.1 0 = 205 ∨ S.o y.2.1 0 = 206 ∨ S.o y.2.1 0 = 207 ∨ S.o y.2.1 0 = 304) ∨ (x1 = 0 ∧ S.o y.2.1 0 = 218)) (c :: L) P.1 := fun hl h => by
        rw [hl, if_neg n10] at e2
        cases e2
        exact ⟨rfl, FNS.here (Or.inl h) hx bl.2⟩
      by_cases c1 : S.o c.2.1 0 = 205
      · rw [if_pos c1] at el
        cases el
        exact loop rfl (Or.inl c1)
      · rw [if_neg c1] at el
        by_cases c2 : S.o c.2.1 0 = 206
        · rw [if_pos c2] at el
          cases el
          exact loop rfl (Or.inr (Or.inl c2))
        · rw [if_neg c2] at el
          by_cases c3 : S.o c.2.1 0 = 207
          · rw [if_pos c3] at el
            cases el
            exact loop rfl (Or.inr (Or.inr (Or.inl c3)))
          · rw [if_neg c3] at el
            by_cases c4 : S.o c.2.1 0 = 304
            · rw [if_pos c4] at el
              cases el
              exact loop rfl (Or.inr (Or.inr (Or.inr c4)))
            · rw [if_neg c4] at el
              cases el
              have nl : ¬ (S.o c.2.1 0 = 205 ∨ S.o c.2.1 0 = 206 ∨ S.o c.2.1 0 = 207 ∨ S.o c.2.1 0 = 304) := fun z => by
                rcases z with z | z | z | z
                · exact c1 z
                · exact c2 z
                · exact c3 z
                · exact c4 z
              have e3 : (if x1 = 0 then if oK S c.2.1 0 then (if (CS.o S c.2.1 0) = 218 then some (x2, S) else f_X6_nearest_7 N n S x1 (x2 + (-1))) else none else f_X6_nearest_7 N n S x1 (x2 + (-1))) = some P := (if_pos rfl).symm.trans e2
              by_cases c5 : x1 = 0
              · rw [if_pos c5] at e3
                obtain ⟨-, e3⟩ := hf_ite e3
                by_cases c6 : S.o c.2.1 0 = 218
                · rw [if_pos c6] at e3
                  cases e3
                  exact ⟨rfl, FNS.here (Or.inr ⟨c5, c6⟩) hx bl.2⟩
                · rw [if_neg c6] at e3
                  exact next e3 (fun z => z.elim nl (fun y => c6 y.2))
              · rw [if_neg c5] at e3
                exact next e3 (fun z => z.elim nl (fun y => c5 y.1))
end
section
/-! both readers: the way through a statement's head -/
/-- from where the statement began to a later place in its head, its frame on top: p bytes, f free instructions, k signs, y targets and z rows that are (not) paid -/
def WAY (d : Int32) (T : Nat) (p f k y z : Int) (S : CS) (s : RS) (P : CS) (q : RS) : Prop := ENV d P q ∧ tpI q = (T : Int) ∧ FRB T s q ∧ TBK s q ∧ CKZ S P ∧ (P.i 38 = S.i 38 ∧ P.i 50 = S.i 50 ∧ P.i 53 = S.i 53 ∧ P.i 56 = S.i 56 ∧ P.i 36 = 1) ∧ ((s.i 11).toInt + p ≤ (q.i 11).toInt ∧ phI s + f ≤ phI q ∧ (s.i 17).toInt ≤ (q.i 17).toInt ∧ (q.i 19).toInt = (s.i 19).toInt + k) ∧ ((P.i 21).toInt + 2 * (s.i 11).toInt ≤ (S.i 21).toInt + 2 * (q.i 11).toInt + y ∧ (P.i 54).toInt + (s.i 11).toInt + z ≤ (S.i 54).toInt + (q.i 11).toInt ∧ 6 * (P.i 55).toInt + (s.i 11).toInt ≤ 6 * (S.i 55).toInt + (q.i 11).toInt)
theorem WAY.stm {d : Int32} {T : Nat} {S : CS} {s : RS} {K : Int32} (hv : ENV d S s) (ht : tpI s = (T : Int)) : WAY d T 0 0 0 0 0 S s (CS.setI (CS.setI S 36 1) 24 ((S.i 24) + 1)) (RS.setA (RS.setI s 53 ((s.i 53) + 1)) 64 T K) := by
  have ev := hv.stm (t := T) (K := K)
  obtain ⟨fz, kz⟩ := stm_r (s := s) (t := T) (v := s.i 53 + 1) (K := K)
  obtain ⟨zS, rS⟩ := stm_z S (S.i 24 + 1)
  obtain ⟨s1, hs1⟩ : ∃ y, y = RS.setA (RS.setI s 53 ((s.i 53) + 1)) 64 T K := ⟨_, rfl⟩
  obtain ⟨S1, hS1⟩ : ∃ y, y = CS.setI (CS.setI S 36 1) 24 ((S.i 24) + 1) := ⟨_, rfl⟩
  have i1 : ∀ k : Nat, k ≠ 53 → s1.i k = s.i k := by
    rw [hs1]
    exact fun k h => if_neg h
  have iS : ∀ k : Nat, k ≠ 36 → k ≠ 24 → S1.i k = S.i k := by
    rw [hS1]
    exact fun k h1 h2 => (ci_ne _ _ _ h2).trans (ci_ne _ _ _ h1)
  have iS36 : S1.i 36 = 1 := by
    rw [hS1, ci_ne _ _ _ (by decide), ci_at]
  rw [← hs1] at ev fz kz ⊢
  rw [← hS1] at ev zS rS ⊢
  clear hs1 hS1
  have e11 := i1 11 (by decide)
  refine ⟨ev, ?_, fz, kz, zS, ⟨iS 38 (by decide) (by decide), iS 50 (by decide) (by decide), iS 53 (by decide) (by decide), iS 56 (by decide) (by decide), iS36⟩, ⟨by rw [e11]; omega, ?_, by rw [i1 17 (by decide)]; exact Int.le_refl _, by rw [i1 19 (by decide)]; omega⟩, ⟨by rw [e11, iS 21 (by decide) (by decide)]; omega, by rw [e11, iS 54 (by decide) (by decide)]; omega, by rw [e11, iS 55 (by decide) (by decide)]; exact Int.le_refl _⟩⟩
  · show (s1.i 63).toInt = (T : Int)
    rw [i1 63 (by decide)]
    exact ht
  · unfold phI
    rw [i1 17 (by decide), i1 20 (by decide)]
    omega
/-- a piece more -/
theorem WAY.cx {d : Int32} {T : Nat} {p f k y z p1 f1 k1 : Int} {S P R : CS} {s q u : RS} (h : WAY d T p f k y z S s P q) (ev : ENV d R u) (tu : tpI u = (T : Int)) (fr : FRB T q u) (tb : TBK q u) (ck : CKX P R) (n : (q.i 11).toInt + p1 ≤ (u.i 11).toInt ∧ phI q + f1 ≤ phI u ∧ (q.i 17).toInt ≤ (u.i 17).toInt ∧ (u.i 19).toInt = (q.i 19).toInt + k1) : WAY d T (p + p1) (f + f1) (k + k1) y z S s R u := by
  obtain ⟨h1, h2, h3, h4, h5, ⟨i1, i2, i3, i4, i5⟩, ⟨h6, h7, h8, h9⟩, ⟨h10, h11, h12⟩⟩ := h
  have k11 := h1.1.2.2.2.1.1
  have k11' := ev.1.2.2.2.1.1
  obtain ⟨⟨a1, a2, a3, a4, a5, a6⟩, -, -, -, -, -, -, -, b1, b2, b3⟩ := id ck
  rw [k11, k11'] at b1 b2 b3
  exact ⟨ev, tu, h3.tr fr, h4.tr tb, h5.tr i3 ck.z, ⟨a3.trans i1, a4.trans i2, a5.trans i3, a6.trans i4, a2.trans i5⟩, ⟨by omega, by omega, by omega, by omega⟩, ⟨by omega, by omega, by omega⟩⟩
/-- a token more, that makes no row and no target -/
theorem WAY.tok {d : Int32} {T : Nat} {p f k y z p1 f1 k1 : Int} {S P R : CS} {s q u : RS} (h : WAY d T p f k y z S s P q) (ev : ENV d R u) (tu : tpI u = (T : Int)) (fr : FRB T q u) (tb : TBK q u) (pj1 : pj R = pj P) (e22 : R.i 22 = P.i 22) (e18 : A18 P R) (n : (q.i 11).toInt + p1 ≤ (u.i 11).toInt ∧ phI q + f1 ≤ phI u ∧ (q.i 17).toInt ≤ (u.i 17).toInt ∧ (u.i 19).toInt = (q.i 19).toInt + k1) : WAY d T (p + p1) (f + f1) (k + k1) (y - 2 * p1) (z + p1) S s R u := by
  have g := h.cx ev tu fr tb (CKX.of pj1 e22 e18) n
  obtain ⟨h1, h2, h3, h4, h5, -, ⟨h6, h7, h8, h9⟩, ⟨h10, h11, h12⟩⟩ := h
  obtain ⟨g1, g2, g3, g4, g5, g6, g7, ⟨g10, g11, g12⟩⟩ := g
  have e21 := pj_21 pj1
  have e54 := pj_54 pj1
  have n1 := n.1
  rw [← e21] at h10
  rw [← e54] at h11
  exact ⟨g1, g2, g3, g4, g5, g6, g7, ⟨by omega, by omega, g12⟩⟩
theorem WAY.nt {N : Nat} {d : Int32} {T : Nat} {p f k y z : Int} {S P : CS} {s q : RS} {w : Int32 × CS} (h : WAY d T p f k y z S s P q) (h21 : (P.i 21).toInt + 1 ≤ 3 * (q.i 11).toInt + 8) (e : f_X0_newTarget N P = some w) : WAY d T p f k (y + 1) z S s w.2 q := by
  obtain ⟨h1, h2, h3, h4, h5, ⟨i1, i2, i3, i4, i5⟩, h6, ⟨h10, h11, h12⟩⟩ := h
  obtain ⟨e1, e2, e3⟩ := h1.nt h21 e
  have hi := i11_hi h1
  have t21 := h1.t21
  unfold f_X0_newTarget at e
  cases e
  exact ⟨e1, h2, h3, h4, h5, ⟨i1, i2, i3, i4, i5⟩, h6, ⟨by omega, h11, h12⟩⟩
theorem WAY.nx {N : Nat} (hN : 1000 ≤ N) {d : Int32} {T : Nat} {p f k y z : Int} {S P : CS} {s q u : RS} {R : Unit × CS} (h : WAY d T p f k y z S s P q) (nz : ¬ P.i 43 = 0) (e : f_X9_advance N P = some R) (g : f_X12_next N q = some u) : WAY d T (p + 1) (f + 3) (k + 0) (y - 2 * 1) (z + 1) S s R.2 u ∧ (∀ r : Nat, FRB r q u) := by
  obtain ⟨a1, a2, a3, a4, a5, a6, a7, a8, a9, a10⟩ := h.1.adv hN nz e g
  have q17 : (u.i 17).toInt = (q.i 17).toInt + 1 := by rw [a4, t17_up (N := N) h.1]
  refine ⟨h.tok a1 (qj_63 a2 h.2.1) (FRB.of a2) (TBK.of a2 (by rw [a6]; exact Int.le_refl _) (fun j _ => by rw [a7])) a3 a8 a9 ⟨a5, ?_, by omega, by rw [a10]; omega⟩, fun r => FRB.of a2⟩
  unfold phI
  rw [a6, q17]
  omega
theorem WAY.ad {N : Nat} {d : Int32} {T : Nat} {p f k y z : Int} {S P : CS} {s q : RS} {o x : Int32} {w : Unit × CS} (h : WAY d T p f k y z S s P q) (e : f_X0_add N P o x = some w) : WAY d T (p + 0) (f + 0) (k + 0) y z S s w.2 q := by
  obtain ⟨a1, a2, -, -⟩ := y_add h.1 e
  exact h.cx a1 h.2.1 (FRB.rf _ _) (TBK.rf _) a2 ⟨by omega, by omega, Int.le_refl _, by omega⟩
theorem WAY.ai {N : Nat} {d : Int32} {T : Nat} {p f k y z : Int} {S P : CS} {s q : RS} {x : Int32} {w : Unit × CS} (h : WAY d T p f k y z S s P q) (e : f_X0_aim N P x = some w) : WAY d T (p + 0) (f + 0) (k + 0) y z S s w.2 q := by
  obtain ⟨a1, a2, -, -⟩ := y_aim h.1 e
  exact h.cx a1 h.2.1 (FRB.rf _ _) (TBK.rf _) a2 ⟨by omega, by omega, Int.le_refl _, by omega⟩
theorem WAY.em {N : Nat} {d : Int32} {T : Nat} {p f k y z : Int} {S P : CS} {s q : RS} {o x : Int32} {v : Int32 × RS} (h : WAY d T p f k y z S s P q) (h1 : 1 ≤ phI q) (e : f_X12_emit N q o x = some v) : WAY d T (p + 0) (f + (-1)) (k + 0) y z S s P v.2 ∧ (∀ r : Nat, FRB r q v.2) ∧ v.1 = q.i 20 ∧ (v.2.i 20).toInt = (q.i 20).toInt + 1 ∧ v.2.i 10 = q.i 10 := by
  obtain ⟨n1, n2, n3, n4, n5, n6, n7, n8, n9, n10', n11⟩ := y_emit h.1 h.2.1 h1 e
  exact ⟨h.cx n1 n2 (n3 T) n4 (CKX.rf P) ⟨by rw [n8]; omega, by omega, by rw [n9]; exact Int.le_refl _, by rw [n10']; omega⟩, n3, n6, n7, n11⟩
theorem WAY.sa {d : Int32} {T : Nat} {p f k y z : Int} {S P : CS} {s q : RS} {j : Nat} {v : Int32} (h : WAY d T p f k y z S s P q) (hj : 64 ≤ j ∧ j ≤ 73) : WAY d T p f k y z S s P (RS.setA q j T v) := by
  obtain ⟨h1, h2, h3, h4, h5, i, h6, h10⟩ := h
  exact ⟨setA_env (Or.inr hj) h1, h2, h3.tr (setA_frb (Or.inr ⟨hj.1, hj.2, Nat.le_refl _⟩)), h4.tr (setA_tbk hj), h5, i, h6, h10⟩
theorem WAY.op {N : Nat} (hN : 1000 ≤ N) {d : Int32} {T : Nat} {p f k y z : Int} {S P : CS} {s q : RS} {R : Unit × CS} {V : Int32 × RS} {c e : Int32} (h : WAY d T p f k y z S s P q) (hc : tyR c) (hd : tm c = e) (h6 : ¬ e = 6) (h0 : ¬ c = 0) (e1 : f_X1_open N P c = some R) (g : f_X12_open N q e = some V) : (V.1 = 0 ∧ ¬ R.2.i 32 = 0 ∧ ¬ V.2.i 15 = 0) ∨ (V.1 = 1 ∧ WAY d T (p + 1) (f + 3) (k + 1) (y - 2 * 1) (z + 1) S s R.2 V.2 ∧ ∀ r : Nat, FRB r q V.2) := by
  rcases y_open hN h.1 hc hd h6 h0 e1 g with o | ⟨o1, o2, o3, o4, o5, o6, o7, o8, o9, o10, o11, o12⟩
  · exact Or.inl o
  · have q17 : (V.2.i 17).toInt = (q.i 17).toInt + 1 := by rw [o6, t17_up (N := N) h.1]
    refine Or.inr ⟨o1, h.tok o3 (qj_63 o4 h.2.1) (FRB.of o4) (TBK.of o4 (by rw [o8]; exact Int.le_refl _) (fun j _ => by rw [o9])) o5 o10 o11 ⟨o7, ?_, by omega, o12⟩, fun r => FRB.of o4⟩
    unfold phI
    rw [o8, q17]
    omega
/-- the rows and their signs are those where the statement began -/
theorem WAY.sum {d d0 : Int32} {T : Nat} {p f k y z : Int} {S P : CS} {s q : RS} (h : WAY d T p f k y z S s P q) (h0 : ENV d0 S s) : SGS P (cnI P).toNat = SGS S (cnI S).toNat ∧ WCS P (cnI P).toNat = WCS S (cnI S).toNat := by
  have w := h0.ri.2.2.2.1
  refine sum_eq w.2 (fun i hi => ?_) h.2.2.2.2.2.1.2.2.1
  have hi' : (i : Int) < (S.i 53).toInt := by
    have : cnI S = (S.i 53).toInt := rfl
    omega
  exact ⟨h.2.2.2.2.1.2.1 i hi', fun a ha => h.2.2.2.2.1.2.2.1 i a hi' ha⟩
theorem WAY.sg {d d0 : Int32} {T : Nat} {p f k y z : Int} {S P : CS} {s q : RS} (h : WAY d T p f k y z S s P q) (h0 : ENV d0 S s) : SGS P (cnI P).toNat + k ≤ sgI P := by
  rw [(h.sum h0).1]
  have e0 := h0.2.2.1.1
  have e1 := h.1.2.2.1.1
  have w := h0.ri.2.2.2.2.2.2
  have n := h.2.2.2.2.2.2.1.2.2.2
  unfold sgI at *
  rw [e0] at w
  rw [e1]
  omega
theorem WAY.pay {d d0 : Int32} {T : Nat} {p f k y z : Int} {S P : CS} {s q : RS} (h : WAY d T p f k y z S s P q) (h0 : ENV d0 S s) (hp : 4 ≤ p) : WCS P (cnI P).toNat + 3 ≤ eI P := by
  rw [(h.sum h0).2]
  have w := h0.ri.2.2.2.2.2.1
  have a := (eI.ge S).2
  have b := (eI.ge P).1
  have n := h.2.2.2.2.2.2.1.1
  have e0 := h0.1.2.2.2.1.1
  have e1 := h.1.1.2.2.2.1.1
  unfold plI at a b
  rw [e0] at a
  rw [e1] at b
  omega
theorem WAY.cl {N : Nat} (hN : 1000 ≤ N) {d d0 : Int32} {T : Nat} {p f k y z : Int} {S P : CS} {s q : RS} {R : Unit × CS} {V : Int32 × RS} {c e : Int32} (h : WAY d T p f k y z S s P q) (hs : ENV d0 S s) (hk : 1 ≤ k) (hc : tyR c) (hd : tm c = e) (h6 : ¬ e = 6) (h0 : ¬ c = 0) (e1 : f_X1_close N P c = some R) (g : f_X12_shut N q e = some V) : (V.1 = 0 ∧ ¬ R.2.i 32 = 0 ∧ ¬ V.2.i 15 = 0) ∨ (V.1 = 1 ∧ WAY d T (p + 1) (f + 3) (k + (-1)) (y - 2 * 1) (z + 1) S s R.2 V.2 ∧ ∀ r : Nat, FRB r q V.2) := by
  have sg := h.sg hs
  rcases y_close hN h.1 (by omega) hc hd h6 h0 e1 g with o | ⟨o1, o2, o3, o4, o5, o6, o7, o8, o9, o10, o11, o12⟩
  · exact Or.inl o
  · have q17 : (V.2.i 17).toInt = (q.i 17).toInt + 1 := by rw [o6, t17_up (N := N) h.1]
    refine Or.inr ⟨o1, h.tok o3 (qj_63 o4 h.2.1) (FRB.of o4) (TBK.of o4 (by rw [o8]; exact Int.le_refl _) (fun j _ => by rw [o9])) o5 o10 o11 ⟨o7, ?_, by omega, by omega⟩, fun r => FRB.of o4⟩
    unfold phI
    rw [o8, q17]
    omega
theorem WAY.exo {d : Int32} {T : Nat} {st : Int32} {p f k y z : Int} {S P R : CS} {s q u : RS} (h : WAY d T p f k y z S s P q) (x : EXO d T st P q R u) : WAY d T (p + 1) (f + 1) (k + 0) y z S s R u := by
  obtain ⟨x1, x2, x3, x4, x5, x6, x7, x8, x9, x10⟩ := x
  exact h.cx x1 x2 x4 x5 x6 ⟨x7, x8, by omega, by rw [x10]; omega⟩
/-- all that stands is moved to that place -/
theorem COR.way {d : Int32} {B : CS} {b : RS} {t0 T : Nat} {L : List CEL} {x p f k y z : Int} {S P : CS} {s q : RS} {c : CEL} (hC : COR d B b t0 (c :: L) x S s) (ht : TOP S s c) (lw : LOW S s c) (hw : T = ceT c + wid (S.o c.2.1 0)) (hT : t0 ≤ T) (w : WAY d T p f k y z S s P q) (n : 0 ≤ p ∧ 0 ≤ f ∧ y ≤ 0 ∧ 0 ≤ z ∧ k = 0) : COR d B b t0 (c :: L) x P q ∧ TOP P q c ∧ LOW P q c ∧ P.o c.2.1 = S.o c.2.1 := by
  obtain ⟨h1, h2, h3, h4, h5, ⟨i1, i2, i3, i4, i5⟩, ⟨h6, h7, h8, h9⟩, ⟨h10, h11, h12⟩⟩ := w
  have hin := hC.inl ht hw
  obtain ⟨t1, t2, t3, t4, t5, t6, t7, t8, t9, t10⟩ := h4.1.1
  have eo := (hin.o h5 c List.mem_cons_self).1
  have n8 := hC.2.2.2.2.2.2.2.2.1.2.1
  have k11 := hC.1.1.2.2.2.1.1
  have k11' := h1.1.2.2.2.1.1
  have rt : RTE S P := by
    unfold RTE
    rw [k11, k11']
    exact ⟨by omega, by omega, by omega⟩
  exact ⟨hC.mv hin hT h1 h3 h4.1.r h4.2 ⟨t1, t2, t3, t5, t6, t7, t8, t9, t10⟩ h5 ⟨i1, i3, i4⟩ rt ⟨by omega, by omega, by omega, by omega⟩ (by rw [t4]; omega) (by rw [t4]; exact Int.le_refl _), ht.mv eo i3 t5 t7, lw.mv eo h3 (by omega), eo⟩
end
section
/-! both readers: a row is pushed -/
/-- rows of which sort and word are the same -/
def CSQ (S R : CS) (n : Nat) : Prop := ∀ i : Nat, i < n → R.r 51 i = S.r 51 i ∧ ∀ a : Nat, S.r 51 i = some a → R.o a 0 = S.o a 0 ∧ R.ol a = S.ol a
theorem CSQ.row {S R : CS} {n i : Nat} (h : CSQ S R n) (hn : NR S n) (hi : i < n) : rowA R i = rowA S i ∧ R.o (rowA S i) 0 = S.o (rowA S i) 0 ∧ R.ol (rowA S i) = S.ol (rowA S i) := by
  obtain ⟨a, e⟩ := hn i hi
  have q := h i hi
  have ea : rowA S i = a := by unfold rowA; rw [e]; rfl
  refine ⟨by unfold rowA; rw [q.1], ?_, ?_⟩
  · rw [ea]; exact (q.2 a e).1
  · rw [ea]; exact (q.2 a e).2
theorem CSQ.lo {S R : CS} {n m : Nat} (h : CSQ S R n) (hm : m ≤ n) : CSQ S R m := fun i hi => h i (by omega)
theorem CSQ.sums {S R : CS} : ∀ {n : Nat}, CSQ S R n → NR S n → WCS R n = WCS S n ∧ SGS R n = SGS S n ∧ BLS R n = BLS S n ∧ AMS R n = AMS S n ∧ KLS R n = KLS S n
  | 0, _, _ => ⟨rfl, rfl, rfl, rfl, rfl⟩
  | n + 1, h, hn => by
    obtain ⟨i1, i2, i3, i4, i5⟩ := CSQ.sums (h.lo (Nat.le_succ n)) (fun i hi => hn i (by omega))
    obtain ⟨r1, r2, r3⟩ := h.row hn (Nat.lt_succ_self n)
    refine ⟨?_, ?_, ?_, ?_, ?_⟩
    · unfold WCS cost; rw [i1, r1, r2, r3]
    · unfold SGS sgn; rw [i2, r1, r2]
    · unfold BLS; rw [i3, r1, r2]
    · unfold AMS; rw [i4, r1, r2]
    · unfold KLS; rw [i5, r1, r2, r3]
/-- rows are paid, where what they hold besides sort and word is other -/
theorem RWI.csq {S R : CS} (h : RWI S) (er : R.r = S.r) (eL : R.L = S.L) (ek : R.k = S.k) (eh : R.hs = S.hs) (ei : R.i 53 = S.i 53 ∧ R.i 44 = S.i 44 ∧ R.i 43 = S.i 43 ∧ R.i 34 = S.i 34) (eo : ∀ a : Nat, R.o a 0 = S.o a 0 ∧ R.ol a = S.ol a) : RWI R := by
  obtain ⟨h1, h2, h3, ⟨h4, h5⟩, h6, h7, h8⟩ := h
  obtain ⟨i53, i44, i43, i34⟩ := ei
  have cq : ∀ n : Nat, CSQ S R n := fun n i hi => ⟨by rw [er], fun a _ => eo a⟩
  have ec : cnI R = cnI S := by
    unfold cnI
    rw [i53]
  have sm := (cq (cnI S).toNat).sums h5
  unfold RWI
  rw [ec]
  refine ⟨fun i a hi ha => ?_, fun i j a hi hj ha hb => ?_, by rw [eL, eh]; exact h3, ⟨h4, fun i hi => by rw [er]; exact h5 i hi⟩, fun m hm => ?_, ?_, ?_⟩
  · rw [er] at ha
    have q := h1 i a hi ha
    unfold oK at *
    rw [eL, ek]
    exact q
  · rw [er] at ha hb
    exact h2 i j a hi hj ha hb
  · obtain ⟨i1, i2, i3, i4, i5⟩ := (cq m).sums (fun i hi => h5 i (by omega))
    rw [i1, i3, i4, i5]
    exact h6 m hm
  · rw [sm.1]
    have e44 : eI R = eI S := by
      unfold eI plI
      rw [i44, i43]
    rw [e44]
    exact h7
  · rw [sm.2.1]
    have e34 : sgI R = sgI S := by
      unfold sgI
      rw [i34]
    rw [e34]
    exact h8
theorem so_ne {S : CS} {a k b : Nat} {v : Int32} (h : b ≠ a) : (CS.setO S a k v).o b = S.o b := if_neg h
theorem so_at {S : CS} {a k : Nat} {v : Int32} : (CS.setO S a k v).o a k = v := by
  show va_up S.o a (va_up (S.o a) k v) a k = v
  unfold va_up
  rw [if_pos rfl, if_pos rfl]
theorem so_nk {S : CS} {a k b j : Nat} {v : Int32} (h : j ≠ k) : (CS.setO S a k v).o b j = S.o b j := by
  show va_up S.o a (va_up (S.o a) k v) b j = S.o b j
  unfold va_up
  by_cases c : b = a
  · subst c
    rw [if_pos rfl, if_neg h]
  · rw [if_neg c]
theorem ENV.so {d : Int32} {S : CS} {s : RS} {a k : Nat} {v : Int32} (h : ENV d S s) (hk : k ≠ 0) : ENV d (CS.setO S a k v) s := by
  have eo : ∀ b : Nat, (CS.setO S a k v).o b 0 = S.o b 0 ∧ (CS.setO S a k v).ol b = S.ol b := fun b => ⟨so_nk (fun z => hk z.symm), rfl⟩
  exact h.gx (fun _ _ _ _ _ _ _ _ => rfl) ⟨rfl, rfl, rfl⟩ rfl rfl (h.ri.csq rfl rfl rfl rfl ⟨rfl, rfl, rfl, rfl⟩ eo) h.sj h.t21
/-- row a is pushed at place m; what else it holds is no matter -/
def PSQ (S R : CS) (a m : Nat) (v x3 : Int32) : Prop := CKZ S R ∧ ((R.i 53).toInt = (S.i 53).toInt + 1 ∧ (R.i 54).toInt = (S.i 54).toInt + 1 ∧ R.i 55 = S.i 55 ∧ R.a 52 = S.a 52) ∧ (R.i 50 = S.i 50 ∧ R.i 56 = S.i 56 ∧ R.i 36 = S.i 36) ∧ ((S.i 53).toInt = (m : Int) ∧ m ≤ 380 ∧ R.r 51 m = some a) ∧ (R.o a 0 = v ∧ R.o a 1 = S.i 54 + 1 ∧ R.o a 3 = x3 ∧ R.o a 14 = S.i 55) ∧ (∀ i b : Nat, (i : Int) < (S.i 53).toInt → S.r 51 i = some b → b ≠ a)
/-- push, for a row of three bytes -/
theorem ENV.row {N : Nat} {d : Int32} {S : CS} {s : RS} {v : Int32} {p : Option Nat × CS} (h : ENV d S s) (nv : ¬ v = 300 ∧ ¬ v = 301 ∧ ¬ v = 302 ∧ ¬ v = 303) (pay : WCS S (cnI S).toNat + 3 ≤ eI S) (psg : SGS S (cnI S).toNat + (if v = 302 then 2 else if v = 301 ∨ v = 212 ∨ v = 218 ∨ v = 213 ∨ v = 215 ∨ v = 216 then 1 else 0) ≤ sgI S) (h54 : (S.i 54).toInt + 1 ≤ (s.i 11).toInt + 2) (e : f_X6_push N S v (S.i 38) (S.i 50) = some p) : ∃ a m : Nat, p.1 = some a ∧ PSR S p.2 a m v (S.i 50) ∧ ENV d p.2 s ∧ PSQ S p.2 a m v (S.i 50) := by
  obtain ⟨mm, hmm, m38⟩ := RWI.few h
  obtain ⟨a, ra, psr⟩ := y_push h.ri.s hmm (by omega) e
  have w35 := h.ri
  have hmm' : (S.i 53).toInt = (mm : Int) := hmm
  obtain ⟨sj1, sj2, sj3, sj4, sj5, sj6⟩ := id h.sj
  have hi := i11_hi h
  obtain ⟨zR, r53, r54, r55, r52, r21, r44⟩ := psr.z hmm' (by omega) ⟨sj1, by omega⟩
  obtain ⟨⟨b1, b2, b3⟩, j1, ⟨j53, j54⟩, rr1, rr2, rw3, nb, ob1, ⟨f0, f1, f3, fl⟩, ⟨f5, f6, f7, f8⟩, ⟨f9, f10, f11, f12, f14⟩⟩ := id psr
  have es : (cnI S).toNat = mm := by
    show (S.i 53).toInt.toNat = mm
    rw [hmm']
    exact Int.toNat_natCast _
  have nr := w35.2.2.2.1.2
  have iq := w35.2.2.2.2.1
  rw [es] at nr iq pay psg
  have rsq := psr.rsq (by omega)
  obtain ⟨u1, u2, u3, u4, u5⟩ := rsq.put nr rr1
  obtain ⟨iq2, wc2⟩ := iq.plain rsq nr rr1 ⟨by rw [f0]; exact nv.1, by rw [f0]; exact nv.2.1, by rw [f0]; exact nv.2.2.1, fun z => nv.2.2.2 (f0.symm.trans z.1)⟩
  have sgn1 : sgn p.2 a = (if v = 302 then 2 else if v = 301 ∨ v = 212 ∨ v = 218 ∨ v = 213 ∨ v = 215 ∨ v = 216 then 1 else 0) := by
    unfold sgn
    rw [f0]
  have e44 : eI p.2 = eI S := by
    unfold eI plI
    rw [j1 44 (by decide) (by decide), j1 43 (by decide) (by decide)]
  have e34 : sgI p.2 = sgI S := by
    unfold sgI
    rw [j1 34 (by decide) (by decide)]
  have wR : RWI p.2 := psr.ri w35 hmm' (by omega) iq2 (by rw [wc2, e44]; exact pay) (by rw [u2, sgn1, e34]; exact psg)
  exact ⟨a, mm, ra, psr, h.psh psr wR h54, zR, ⟨r53, r54, r55, r52⟩, ⟨j1 50 (by decide) (by decide), j1 56 (by decide) (by decide), j1 36 (by decide) (by decide)⟩, ⟨hmm', m38, rr1⟩, ⟨f0, f1, f3, f14⟩, fun i b hi hb => nb i b (by omega) (by omega) hb⟩
/-- the row gets what else it holds -/
theorem PSQ.so {S R : CS} {a m k : Nat} {v x3 w : Int32} (h : PSQ S R a m v x3) (hk : k ≠ 0 ∧ k ≠ 1 ∧ k ≠ 3 ∧ k ≠ 14) : PSQ S (CS.setO R a k w) a m v x3 := by
  obtain ⟨⟨c1, c2, c3, c4, c5, c6, c7, c8⟩, h2, h3, h4, ⟨f0, f1, f3, f14⟩, h6⟩ := h
  refine ⟨⟨c1, c2, fun i b hi hb => ?_, c4, c5, c6, c7, c8⟩, h2, h3, h4, ⟨(so_nk (fun z => hk.1 z.symm)).trans f0, (so_nk (fun z => hk.2.1 z.symm)).trans f1, (so_nk (fun z => hk.2.2.1 z.symm)).trans f3, (so_nk (fun z => hk.2.2.2 z.symm)).trans f14⟩, h6⟩
  have z := c3 i b hi hb
  rw [so_ne (h6 i b hi hb)]
  exact z
/-- and a piece that keeps it -/
theorem PSQ.cx {S R X : CS} {a m : Nat} {v x3 : Int32} (h : PSQ S R a m v x3) (hm : 0 ≤ (S.i 53).toInt) (g : CKX R X) (e54 : X.i 54 = R.i 54) (e55 : X.i 55 = R.i 55) (e52 : X.a 52 = R.a 52) : PSQ S X a m v x3 := by
  obtain ⟨c, ⟨h53, h54, h55, h52⟩, ⟨h50, h56, h36⟩, ⟨m1, m2, m3⟩, ⟨f0, f1, f3, f14⟩, h6⟩ := h
  have lt : (m : Int) < (R.i 53).toInt := by omega
  have er := g.2.1 m lt
  have eo := (g.2.2.1 m a lt m3).1
  obtain ⟨⟨g1, g2, g3, g4, g5, g6⟩, gz⟩ := id g
  have gc := g.z
  refine ⟨?_, ⟨by rw [g5]; exact h53, by rw [e54]; exact h54, e55.trans h55, e52.trans h52⟩, ⟨g4.trans h50, g6.trans h56, g2.trans h36⟩, ⟨m1, m2, er.trans m3⟩, ⟨by rw [eo]; exact f0, by rw [eo]; exact f1, by rw [eo]; exact f3, by rw [eo]; exact f14⟩, h6⟩
  obtain ⟨c1, c2, c3, c4, c5, c6, c7, c8⟩ := c
  obtain ⟨d1, d2, d3, d4, d5, d6, d7, d8⟩ := gc
  refine ⟨d1.trans c1, fun k hk => (d2 k (by omega)).trans (c2 k hk), fun k b hk hb => ?_, fun k hk => (d4 k (by rw [c1]; exact hk)).trans (c4 k hk), by omega, by omega, fun k hk => (d7 k (by omega)).trans (c7 k hk), fun k k1 k2 => ?_⟩
  · have z := c3 k b hk hb
    have y := d3 k b (by omega) ((c2 k hk).trans hb)
    exact ⟨y.1.trans z.1, y.2.trans z.2⟩
  · rw [e55, h55] at k2
    omega
/-- the reference faulted at int or var (or at what is no token); the class will in its next turn -/
def DMD (d : Int32) (B : CS) (R : CS) (U : RS) : Prop := ¬ U.i 15 = 0 ∧ (∃ u : RS, ENV d R u ∧ (u.i 10 = 410 ∨ u.i 10 = 411 ∨ u.i 10 = 6)) ∧ R.i 36 = 1 ∧ ∃ a m : Nat, (R.i 53).toInt = (m : Int) + 1 ∧ (m ≤ 380 ∧ (B.i 53).toInt ≤ (m : Int)) ∧ R.r 51 m = some a ∧ isOne (R.o a 0) ∧ R.o a 5 = 0
/-- a body begins in the reference -/
theorem r_body {N : Nat} {s V U : RS} {n : Nat} {st : Int32} (h15 : s.i 15 = 0) (hV : f_X12_body N s st = some V) (g : f_X12_parse_10 N n V = some U) : (¬ U.i 15 = 0 ∧ (s.i 10 = 410 ∨ s.i 10 = 411 ∨ s.i 10 = 6)) ∨ (f_X12_then N s st 2 = some V ∧ ¬ s.i 10 = 410 ∧ ¬ s.i 10 = 411 ∧ ¬ s.i 10 = 6) := by
  unfold f_X12_body at hV
  by_cases c1 : s.i 10 = 410
  · rw [if_pos c1] at hV
    obtain ⟨p, hp, hV⟩ := hf_bind hV
    obtain ⟨z1, z2⟩ := y_can0 hp
    rw [if_pos z1] at hV
    cases hV
    exact Or.inl ⟨u_flt g z2, Or.inl c1⟩
  rw [if_neg c1] at hV
  by_cases c2 : s.i 10 = 411
  · rw [if_pos c2] at hV
    obtain ⟨p, hp, hV⟩ := hf_bind hV
    obtain ⟨z1, z2⟩ := y_can0 hp
    rw [if_pos z1] at hV
    cases hV
    exact Or.inl ⟨u_flt g z2, Or.inr (Or.inl c2)⟩
  rw [if_neg c2] at hV
  by_cases c3 : s.i 10 = 6
  · obtain ⟨p, hp, hV⟩ := hf_bind hV
    obtain ⟨z1, z2⟩ := y_can6 c3 hp
    rw [if_pos z1] at hV
    cases hV
    exact Or.inl ⟨u_flt g z2, Or.inr (Or.inr c3)⟩
  rw [y_can1 h15 c3, ob_some] at hV
  have hV' : f_X12_body_32 N s st = some V := hV
  unfold f_X12_body_32 at hV'
  rw [ob_id] at hV'
  exact Or.inr ⟨hV', c1, c2, c3⟩
end
section
/-! both readers: frames by sort; a statement's first step -/
theorem RFR.m300 {S : CS} {s : RS} {a t g w : Nat} (e : S.o a 0 = 300) (h : s.a 64 t = 1) : RFR S s a t g w := by
  have n : ∀ v : Int32, ¬ v = 300 → ¬ S.o a 0 = v := fun v hv q => hv (q.symm.trans e)
  refine ⟨fun _ => h, fun q => absurd q (n 301 (by decide)), fun q => absurd q (n 302 (by decide)), fun q => absurd q (n 303 (by decide)), fun q => absurd q (n 203 (by decide)), fun q => absurd q (n 204 (by decide)), fun q => absurd q (n 205 (by decide)), fun q => absurd q (n 206 (by decide)), fun q => absurd q (n 207 (by decide)), fun q => absurd q (n 304 (by decide)), fun q => absurd q (n 212 (by decide)), fun q => absurd q (n 218 (by decide)), fun q => ?_⟩
  rcases q with z | z | z | z
  · exact absurd z (n 213 (by decide))
  · exact absurd z (n 215 (by decide))
  · exact absurd z (n 305 (by decide))
  · exact absurd z (n 216 (by decide))
theorem RFR.m302 {S : CS} {s : RS} {a t g w : Nat} (e : S.o a 0 = 302) (h : F302 s t (S.o a 3)) : RFR S s a t g w := by
  have n : ∀ v : Int32, ¬ v = 302 → ¬ S.o a 0 = v := fun v hv q => hv (q.symm.trans e)
  refine ⟨fun q => absurd q (n 300 (by decide)), fun q => absurd q (n 301 (by decide)), fun _ => h, fun q => absurd q (n 303 (by decide)), fun q => absurd q (n 203 (by decide)), fun q => absurd q (n 204 (by decide)), fun q => absurd q (n 205 (by decide)), fun q => absurd q (n 206 (by decide)), fun q => absurd q (n 207 (by decide)), fun q => absurd q (n 304 (by decide)), fun q => absurd q (n 212 (by decide)), fun q => absurd q (n 218 (by decide)), fun q => ?_⟩
  rcases q with z | z | z | z
  · exact absurd z (n 213 (by decide))
  · exact absurd z (n 215 (by decide))
  · exact absurd z (n 305 (by decide))
  · exact absurd z (n 216 (by decide))
theorem RFR.m303 {S : CS} {s : RS} {a t g w : Nat} (e : S.o a 0 = 303) (h : F303 s t g (S.ol a)) : RFR S s a t g w := by
  have n : ∀ v : Int32, ¬ v = 303 → ¬ S.o a 0 = v := fun v hv q => hv (q.symm.trans e)
  refine ⟨fun q => absurd q (n 300 (by decide)), fun q => absurd q (n 301 (by decide)), fun q => absurd q (n 302 (by decide)), fun _ => h, fun q => absurd q (n 203 (by decide)), fun q => absurd q (n 204 (by decide)), fun q => absurd q (n 205 (by decide)), fun q => absurd q (n 206 (by decide)), fun q => absurd q (n 207 (by decide)), fun q => absurd q (n 304 (by decide)), fun q => absurd q (n 212 (by decide)), fun q => absurd q (n 218 (by decide)), fun q => ?_⟩
  rcases q with z | z | z | z
  · exact absurd z (n 213 (by decide))
  · exact absurd z (n 215 (by decide))
  · exact absurd z (n 305 (by decide))
  · exact absurd z (n 216 (by decide))
theorem RFR.m203 {S : CS} {s : RS} {a t g w : Nat} (e : S.o a 0 = 203) (h : F203 s t) : RFR S s a t g w := by
  have n : ∀ v : Int32, ¬ v = 203 → ¬ S.o a 0 = v := fun v hv q => hv (q.symm.trans e)
  refine ⟨fun q => absurd q (n 300 (by decide)), fun q => absurd q (n 301 (by decide)), fun q => absurd q (n 302 (by decide)), fun q => absurd q (n 303 (by decide)), fun _ => h, fun q => absurd q (n 204 (by decide)), fun q => absurd q (n 205 (by decide)), fun q => absurd q (n 206 (by decide)), fun q => absurd q (n 207 (by decide)), fun q => absurd q (n 304 (by decide)), fun q => absurd q (n 212 (by decide)), fun q => absurd q (n 218 (by decide)), fun q => ?_⟩
  rcases q with z | z | z | z
  · exact absurd z (n 213 (by decide))
  · exact absurd z (n 215 (by decide))
  · exact absurd z (n 305 (by decide))
  · exact absurd z (n 216 (by decide))
theorem RFR.m204 {S : CS} {s : RS} {a t g w : Nat} (e : S.o a 0 = 204) (h : F204 s t (S.o a 6)) : RFR S s a t g w := by
  have n : ∀ v : Int32, ¬ v = 204 → ¬ S.o a 0 = v := fun v hv q => hv (q.symm.trans e)
  refine ⟨fun q => absurd q (n 300 (by decide)), fun q => absurd q (n 301 (by decide)), fun q => absurd q (n 302 (by decide)), fun q => absurd q (n 303 (by decide)), fun q => absurd q (n 203 (by decide)), fun _ => h, fun q => absurd q (n 205 (by decide)), fun q => absurd q (n 206 (by decide)), fun q => absurd q (n 207 (by decide)), fun q => absurd q (n 304 (by decide)), fun q => absurd q (n 212 (by decide)), fun q => absurd q (n 218 (by decide)), fun q => ?_⟩
  rcases q with z | z | z | z
  · exact absurd z (n 213 (by decide))
  · exact absurd z (n 215 (by decide))
  · exact absurd z (n 305 (by decide))
  · exact absurd z (n 216 (by decide))
theorem RFR.m205 {S : CS} {s : RS} {a t g w : Nat} (e : S.o a 0 = 205) (h : F205 s t g (S.o a 7)) : RFR S s a t g w := by
  have n : ∀ v : Int32, ¬ v = 205 → ¬ S.o a 0 = v := fun v hv q => hv (q.symm.trans e)
  refine ⟨fun q => absurd q (n 300 (by decide)), fun q => absurd q (n 301 (by decide)), fun q => absurd q (n 302 (by decide)), fun q => absurd q (n 303 (by decide)), fun q => absurd q (n 203 (by decide)), fun q => absurd q (n 204 (by decide)), fun _ => h, fun q => absurd q (n 206 (by decide)), fun q => absurd q (n 207 (by decide)), fun q => absurd q (n 304 (by decide)), fun q => absurd q (n 212 (by decide)), fun q => absurd q (n 218 (by decide)), fun q => ?_⟩
  rcases q with z | z | z | z
  · exact absurd z (n 213 (by decide))
  · exact absurd z (n 215 (by decide))
  · exact absurd z (n 305 (by decide))
  · exact absurd z (n 216 (by decide))
theorem RFR.m206 {S : CS} {s : RS} {a t g w : Nat} (e : S.o a 0 = 206) (h : F206 s t g) : RFR S s a t g w := by
  have n : ∀ v : Int32, ¬ v = 206 → ¬ S.o a 0 = v := fun v hv q => hv (q.symm.trans e)
  refine ⟨fun q => absurd q (n 300 (by decide)), fun q => absurd q (n 301 (by decide)), fun q => absurd q (n 302 (by decide)), fun q => absurd q (n 303 (by decide)), fun q => absurd q (n 203 (by decide)), fun q => absurd q (n 204 (by decide)), fun q => absurd q (n 205 (by decide)), fun _ => h, fun q => absurd q (n 207 (by decide)), fun q => absurd q (n 304 (by decide)), fun q => absurd q (n 212 (by decide)), fun q => absurd q (n 218 (by decide)), fun q => ?_⟩
  rcases q with z | z | z | z
  · exact absurd z (n 213 (by decide))
  · exact absurd z (n 215 (by decide))
  · exact absurd z (n 305 (by decide))
  · exact absurd z (n 216 (by decide))
theorem RFR.m207 {S : CS} {s : RS} {a t g w : Nat} (e : S.o a 0 = 207) (h : F207 s t g (S.o a 3) (S.o a 7)) : RFR S s a t g w := by
  have n : ∀ v : Int32, ¬ v = 207 → ¬ S.o a 0 = v := fun v hv q => hv (q.symm.trans e)
  refine ⟨fun q => absurd q (n 300 (by decide)), fun q => absurd q (n 301 (by decide)), fun q => absurd q (n 302 (by decide)), fun q => absurd q (n 303 (by decide)), fun q => absurd q (n 203 (by decide)), fun q => absurd q (n 204 (by decide)), fun q => absurd q (n 205 (by decide)), fun q => absurd q (n 206 (by decide)), fun _ => h, fun q => absurd q (n 304 (by decide)), fun q => absurd q (n 212 (by decide)), fun q => absurd q (n 218 (by decide)), fun q => ?_⟩
  rcases q with z | z | z | z
  · exact absurd z (n 213 (by decide))
  · exact absurd z (n 215 (by decide))
  · exact absurd z (n 305 (by decide))
  · exact absurd z (n 216 (by decide))
theorem RFR.m304 {S : CS} {s : RS} {a t g w : Nat} (e : S.o a 0 = 304) (h : F304 s t g (S.o a 3) ∧ S.o a 7 = 0) : RFR S s a t g w := by
  have n : ∀ v : Int32, ¬ v = 304 → ¬ S.o a 0 = v := fun v hv q => hv (q.symm.trans e)
  refine ⟨fun q => absurd q (n 300 (by decide)), fun q => absurd q (n 301 (by decide)), fun q => absurd q (n 302 (by decide)), fun q => absurd q (n 303 (by decide)), fun q => absurd q (n 203 (by decide)), fun q => absurd q (n 204 (by decide)), fun q => absurd q (n 205 (by decide)), fun q => absurd q (n 206 (by decide)), fun q => absurd q (n 207 (by decide)), fun _ => h, fun q => absurd q (n 212 (by decide)), fun q => absurd q (n 218 (by decide)), fun q => ?_⟩
  rcases q with z | z | z | z
  · exact absurd z (n 213 (by decide))
  · exact absurd z (n 215 (by decide))
  · exact absurd z (n 305 (by decide))
  · exact absurd z (n 216 (by decide))
theorem RFR.m212 {S : CS} {s : RS} {a t g w : Nat} (e : S.o a 0 = 212) (h : F212 s t (S.o a 3)) : RFR S s a t g w := by
  have n : ∀ v : Int32, ¬ v = 212 → ¬ S.o a 0 = v := fun v hv q => hv (q.symm.trans e)
  refine ⟨fun q => absurd q (n 300 (by decide)), fun q => absurd q (n 301 (by decide)), fun q => absurd q (n 302 (by decide)), fun q => absurd q (n 303 (by decide)), fun q => absurd q (n 203 (by decide)), fun q => absurd q (n 204 (by decide)), fun q => absurd q (n 205 (by decide)), fun q => absurd q (n 206 (by decide)), fun q => absurd q (n 207 (by decide)), fun q => absurd q (n 304 (by decide)), fun _ => h, fun q => absurd q (n 218 (by decide)), fun q => ?_⟩
  rcases q with z | z | z | z
  · exact absurd z (n 213 (by decide))
  · exact absurd z (n 215 (by decide))
  · exact absurd z (n 305 (by decide))
  · exact absurd z (n 216 (by decide))
theorem RFR.m218 {S : CS} {s : RS} {a t g w : Nat} (e : S.o a 0 = 218) (h : F218 s t g (S.o a 3) (S.o a 11)) : RFR S s a t g w := by
  have n : ∀ v : Int32, ¬ v = 218 → ¬ S.o a 0 = v := fun v hv q => hv (q.symm.trans e)
  refine ⟨fun q => absurd q (n 300 (by decide)), fun q => absurd q (n 301 (by decide)), fun q => absurd q (n 302 (by decide)), fun q => absurd q (n 303 (by decide)), fun q => absurd q (n 203 (by decide)), fun q => absurd q (n 204 (by decide)), fun q => absurd q (n 205 (by decide)), fun q => absurd q (n 206 (by decide)), fun q => absurd q (n 207 (by decide)), fun q => absurd q (n 304 (by decide)), fun q => absurd q (n 212 (by decide)), fun _ => h, fun q => ?_⟩
  rcases q with z | z | z | z
  · exact absurd z (n 213 (by decide))
  · exact absurd z (n 215 (by decide))
  · exact absurd z (n 305 (by decide))
  · exact absurd z (n 216 (by decide))
theorem WAY.nu {d : Int32} {T : Nat} {p f k y z p' f' k' y' z' : Int} {S P : CS} {s q : RS} (h : WAY d T p f k y z S s P q) (hp : p' ≤ p) (hf : f' ≤ f) (hk : k' = k) (hy : y ≤ y') (hz : z' ≤ z) : WAY d T p' f' k' y' z' S s P q := by
  obtain ⟨h1, h2, h3, h4, h5, i, ⟨h6, h7, h8, h9⟩, ⟨h10, h11, h12⟩⟩ := h
  exact ⟨h1, h2, h3, h4, h5, i, ⟨by omega, by omega, h8, by omega⟩, ⟨by omega, by omega, h12⟩⟩
/-- which frame a word begins -/
def kwd (v K : Int32) : Prop := (v = 413 ∧ K = 9) ∨ (v = 415 ∧ K = 10) ∨ (v = 416 ∧ K = 11) ∨ (v = 417 ∧ K = 12) ∨ (v = 422 ∧ K = 13) ∨ (v = 428 ∧ K = 14) ∨ (v = 423 ∧ K = 15) ∨ (v = 410 ∧ K = 4) ∨ (v = 411 ∧ K = 4) ∨ (v = 412 ∧ K = 6) ∨ (v = 420 ∧ K = 6) ∨ (v = 431 ∧ K = 6) ∨ (v = 421 ∧ K = 7) ∨ (v = 427 ∧ K = 8) ∨ (v = 2 ∧ K = 5)
theorem r_stat {N T : Nat} {s V : RS} {v K : Int32} (ht : tpI s = (T : Int)) (h10 : s.i 10 = v) (hv : kwd v K) (h : f_X12_stat N s (s.i 63) = some V) : f_X12_stat_240 N (RS.setA (RS.setI s 53 ((s.i 53) + 1)) 64 T K) (s.i 63) = some V := by
  unfold f_X12_stat at h
  rw [h10, tp_nat ht] at h
  rcases hv with ⟨rfl, rfl⟩ | ⟨rfl, rfl⟩ | ⟨rfl, rfl⟩ | ⟨rfl, rfl⟩ | ⟨rfl, rfl⟩ | ⟨rfl, rfl⟩ | ⟨rfl, rfl⟩ | ⟨rfl, rfl⟩ | ⟨rfl, rfl⟩ | ⟨rfl, rfl⟩ | ⟨rfl, rfl⟩ | ⟨rfl, rfl⟩ | ⟨rfl, rfl⟩ | ⟨rfl, rfl⟩ | ⟨rfl, rfl⟩
  · iterate 9 rw [if_neg (by decide)] at h
    rw [if_pos rfl] at h
    exact (hf_ite h).2
  · iterate 10 rw [if_neg (by decide)] at h
    rw [if_pos rfl] at h
    exact (hf_ite h).2
  · iterate 11 rw [if_neg (by decide)] at h
    rw [if_pos rfl] at h
    exact (hf_ite h).2
  · iterate 12 rw [if_neg (by decide)] at h
    rw [if_pos rfl] at h
    exact (hf_ite h).2
  · iterate 13 rw [if_neg (by decide)] at h
    rw [if_pos rfl] at h
    exact (hf_ite h).2
  · iterate 14 rw [if_neg (by decide)] at h
    rw [if_pos rfl] at h
    exact (hf_ite h).2
  · iterate 15 rw [if_neg (by decide)] at h
    rw [if_pos rfl] at h
    exact (hf_ite h).2
  · iterate 1 rw [if_neg (by decide)] at h
    rw [if_pos rfl] at h
    exact (hf_ite h).2
  · iterate 2 rw [if_neg (by decide)] at h
    rw [if_pos rfl] at h
    exact (hf_ite h).2
  · iterate 4 rw [if_neg (by decide)] at h
    rw [if_pos rfl] at h
    exact (hf_ite h).2
  · iterate 5 rw [if_neg (by decide)] at h
    rw [if_pos rfl] at h
    exact (hf_ite h).2
  · iterate 6 rw [if_neg (by decide)] at h
    rw [if_pos rfl] at h
    exact (hf_ite h).2
  · iterate 7 rw [if_neg (by decide)] at h
    rw [if_pos rfl] at h
    exact (hf_ite h).2
  · iterate 8 rw [if_neg (by decide)] at h
    rw [if_pos rfl] at h
    exact (hf_ite h).2
  · iterate 3 rw [if_neg (by decide)] at h
    rw [if_pos rfl] at h
    exact (hf_ite h).2
/-- the first step of a statement that begins with a word: counted, its frame has its sort, an instruction more in both -/
theorem st_gj {N : Nat} {d : Int32} {B : CS} {b : RS} {t0 T n : Nat} {L : List CEL} {x : Int} {S : CS} {s U : RS} {c : CEL} {v K : Int32} {p : Unit × CS} (hC : COR d B b t0 (c :: L) x S s) (hS : STO c T S s) (h10 : s.i 10 = v) (hk : kwd v K) (k5 : ¬ K = 5) (e1 : f_X0_add N (CS.setI (CS.setI S 36 1) 24 ((S.i 24) + 1)) 51 0 = some p) (g : f_X12_parse_10 N n s = some U) : ∃ (m : Nat) (q : RS), f_X12_parse_10 N m q = some U ∧ WAY d T 0 (-1) 0 0 0 S s p.2 q ∧ q.a 64 T = K ∧ q.a 65 T = 0 ∧ p.2.i 43 = S.i 43 ∧ q.i 10 = v ∧ 3 ≤ phI s ∧ p.2.i 21 = S.i 21 ∧ q.i 11 = s.i 11 ∧ JST N S s p.2 q := by
  obtain ⟨q1, q2, q3, q4, q5, q6⟩ := id hS
  have hv := hC.1
  obtain ⟨m1, V1, hV1, g1⟩ := rl_2 g q4 hv.1.2.1 q5
  have hV2 := r_stat q4 h10 hk hV1
  have ph3 : 3 ≤ phI s := by
    have a := hC.2.2.2.2.2.2.1.2.1
    have b := (PDM.ge S (c :: L)).1
    have e := hC.2.2.2.2.2.2.2.2.2.2.2.1
    omega
  have w0 := WAY.stm (K := K) hv q4
  have k2 : ¬ K = 2 := by
    rcases hk with ⟨-, z⟩ | ⟨-, z⟩ | ⟨-, z⟩ | ⟨-, z⟩ | ⟨-, z⟩ | ⟨-, z⟩ | ⟨-, z⟩ | ⟨-, z⟩ | ⟨-, z⟩ | ⟨-, z⟩ | ⟨-, z⟩ | ⟨-, z⟩ | ⟨-, z⟩ | ⟨-, z⟩ | ⟨-, z⟩ <;> rw [z] <;> decide
  obtain ⟨s1, hs1⟩ : ∃ y, y = RS.setA (RS.setI s 53 ((s.i 53) + 1)) 64 T K := ⟨_, rfl⟩
  obtain ⟨S1, hS1⟩ : ∃ y, y = CS.setI (CS.setI S 36 1) 24 ((S.i 24) + 1) := ⟨_, rfl⟩
  have i1 : ∀ k : Nat, k ≠ 53 → s1.i k = s.i k := by
    rw [hs1]
    exact fun k h => if_neg h
  have a64 : s1.a 64 T = K := by
    rw [hs1]
    exact setA_at
  have aq : ∀ k : Nat, k ≠ 64 → s1.a k = s.a k := by
    rw [hs1]
    exact fun k h => setA_nk h
  have iS : ∀ k : Nat, k ≠ 36 → k ≠ 24 → S1.i k = S.i k := by
    rw [hS1]
    exact fun k h1 h2 => (ci_ne _ _ _ h2).trans (ci_ne _ _ _ h1)
  have peS : pe S1 = pe S := by rw [hS1]; rfl
  have aS : S1.a = S.a := by rw [hS1]; rfl
  have qs : qe s1 = qe s := by rw [hs1]; rfl
  rw [← hs1] at hV2 w0
  rw [← hS1] at e1 w0
  clear hs1 hS1
  have p1 : phI s1 = phI s := by
    unfold phI
    rw [i1 17 (by decide), i1 20 (by decide)]
  unfold f_X12_stat_240 at hV2
  obtain ⟨-, hV2⟩ := hf_ite hV2
  rw [tp_nat q4, a64, if_neg k2, if_neg k5] at hV2
  obtain ⟨y, hy, hV2⟩ := hf_bind hV2
  cases hV2
  obtain ⟨w1, f1, -, -, y10⟩ := w0.em (by omega) hy
  have w2 := w1.ad e1
  obtain ⟨-, -, i43, i21⟩ := y_add w1.1 e1
  have z11 := (y_emit w0.1 w0.2.1 (by omega) hy).2.2.2.2.2.2.2.1
  have yb := y_emit w0.1 w0.2.1 (by omega) hy
  have cS : CD1 0 0 S S1 := (CD1.pe (b := 0) peS (iS 21 (by decide) (by decide)) (iS 50 (by decide) (by decide)) (by rw [aS]) (by rw [aS]) (by rw [iS 44 (by decide) (by decide)]; omega)).wk (by omega) (by omega)
  have jst : JST N S s p.2 y.2 := ⟨d, S1, s1, p, y, w0.1, cS, fun _ _ => CT7.eq (by rw [aS]), fun _ => CD2.qe qs, iS 20 (by decide) (by decide), i1 20 (by decide), by omega, e1, hy, rfl, rfl, ⟨yb.2.2.2.1.1.1.2.2.2.1.trans (i1 38 (by decide)), fun j hj => ((yb.2.2.2.1.1.2.1 j (by rw [i1 38 (by decide)]; exact hj)).2.1).trans (by rw [aq 40 (by decide)])⟩, i1 38 (by decide), fun j _ => by rw [aq 40 (by decide)]⟩
  exact ⟨m1, y.2, g1, w2.nu (by omega) (by omega) (by omega) (by omega) (by omega), (f1 (T + 1) T (by omega)).1.trans a64, (f1 (T + 1) T (by omega)).2.1.trans (by rw [aq 65 (by decide)]; exact q6), i43.trans (iS 43 (by decide) (by decide)), by rw [y10, i1 10 (by decide)]; exact h10, ph3, i21.trans (iS 21 (by decide) (by decide)), z11.trans (i1 11 (by decide)), jst⟩
theorem st_go {N : Nat} {d : Int32} {B : CS} {b : RS} {t0 T n : Nat} {L : List CEL} {x : Int} {S : CS} {s U : RS} {c : CEL} {v K : Int32} {p : Unit × CS} (hC : COR d B b t0 (c :: L) x S s) (hS : STO c T S s) (h10 : s.i 10 = v) (hk : kwd v K) (k5 : ¬ K = 5) (e1 : f_X0_add N (CS.setI (CS.setI S 36 1) 24 ((S.i 24) + 1)) 51 0 = some p) (g : f_X12_parse_10 N n s = some U) : ∃ (m : Nat) (q : RS), f_X12_parse_10 N m q = some U ∧ WAY d T 0 (-1) 0 0 0 S s p.2 q ∧ q.a 64 T = K ∧ q.a 65 T = 0 ∧ p.2.i 43 = S.i 43 ∧ q.i 10 = v ∧ 3 ≤ phI s ∧ p.2.i 21 = S.i 21 ∧ q.i 11 = s.i 11 := by
  obtain ⟨m, q, h1, h2, h3, h4, h5, h6, h7, h8, h9, -⟩ := st_gj hC hS h10 hk k5 e1 g
  exact ⟨m, q, h1, h2, h3, h4, h5, h6, h7, h8, h9⟩
/-- a row more without a goal, no switch; what it waits for is new -/
theorem COL.addp {S : CS} {s : RS} {L : List CEL} {c1 : CEL} {col : Nat → Option (Nat × Bool)} {b20 : Int} (h : COL S s L col b20) (ng : ¬ isGo (S.o c1.2.1 0)) (ns : ¬ S.o c1.2.1 0 = 218) (np : ∀ k : Int, PLF S s c1 k → b20 ≤ k ∧ k < (s.i 20).toInt ∧ col k.toNat = none ∧ ∀ q ∈ L, S.o q.2.1 0 = 218 → ¬ k = (s.a 66 (ceT q)).toInt) : COL S s (c1 :: L) col b20 := by
  obtain ⟨h1, h2, h3, h4, h5, h6, h7⟩ := h
  refine ⟨h1, h2, fun c hc q => ?_, fun k g e q => ?_, fun c hc q => ?_, fun c hc q hq t1 t2 l => ?_, fun c hc k p => ?_⟩
  · rcases List.mem_cons.mp hc with rfl | hc
    · exact absurd q ng
    · exact h3 c hc q
  · obtain ⟨c, hc, g1, g2⟩ := h4 k g e q
    exact ⟨c, List.mem_cons_of_mem _ hc, g1, g2⟩
  · rcases List.mem_cons.mp hc with rfl | hc
    · exact absurd q ns
    · exact h5 c hc q
  · rcases List.mem_cons.mp hc with rfl | hc
    · exact absurd t1 ns
    · rcases List.mem_cons.mp hq with rfl | hq
      · exact absurd t2 ns
      · exact h6 c hc q hq t1 t2 l
  · rcases List.mem_cons.mp hc with rfl | hc
    · obtain ⟨z1, z2, z3, z4⟩ := np k p
      refine ⟨z1, z2, z3, fun q hq t => ?_⟩
      rcases List.mem_cons.mp hq with rfl | hq
      · exact absurd t ns
      · exact z4 q hq t
    · obtain ⟨z1, z2, z3, z4⟩ := h7 c hc k p
      refine ⟨z1, z2, z3, fun q hq t => ?_⟩
      rcases List.mem_cons.mp hq with rfl | hq
      · exact absurd t ns
      · exact z4 q hq t
/-- a place of code that is new belongs to no chain and is no head -/
theorem COL.fresh {S : CS} {s : RS} {L : List CEL} {col : Nat → Option (Nat × Bool)} {b20 : Int} (h : COL S s L col b20) {k : Int} (h0 : 0 ≤ (s.i 20).toInt) (hk : (s.i 20).toInt ≤ k) : col k.toNat = none ∧ ∀ q ∈ L, S.o q.2.1 0 = 218 → ¬ k = (s.a 66 (ceT q)).toInt := by
  obtain ⟨h1, h2, h3, h4, h5, h6, h7⟩ := h
  refine ⟨?_, fun q hq t z => ?_⟩
  · cases e : col k.toNat with
    | none => rfl
    | some x =>
      have := (h1 _ x e).2
      omega
  · have := (h5 q hq t).2.1
    omega
/-- names along a way -/
theorem WAY.nv {d : Int32} {T : Nat} {p f k y z : Int} {S P : CS} {s q : RS} (w : WAY d T p f k y z S s P q) : NMV s q := NMV.tbk w.2.2.2.1
theorem WAY.l11 {d : Int32} {T : Nat} {p f k y z : Int} {S P : CS} {s q : RS} (w : WAY d T p f k y z S s P q) : (s.i 11).toInt + p ≤ (q.i 11).toInt := w.2.2.2.2.2.2.1.1
theorem WAY.l19 {d : Int32} {T : Nat} {p f k y z : Int} {S P : CS} {s q : RS} (w : WAY d T p f k y z S s P q) : (q.i 19).toInt = (s.i 19).toInt + k := w.2.2.2.2.2.2.1.2.2.2
end
section
/-! both readers: if -/
set_option maxHeartbeats 4000000 in
theorem st_if {N : Nat} (hN : 1000 ≤ N) {E1 : CS → Option (Unit × CS)} {E2 : CS → Option (Int32 × CS)} (hm1 : ∀ σ, Kf (CS.i σ 32) (E1 σ)) (hm2 : ∀ σ, Kf (CS.i σ 32) (E2 σ)) (hE2 : SXN N 22 E2) {d : Int32} {B : CS} {b : RS} {t0 T n : Nat} {L : List CEL} {x : Int} {S : CS} {s U : RS} {c : CEL} {p R : Unit × CS} {A : JBA} (hC : COR d B b t0 (c :: L) x S s) (hS : STO c T S s) (hT : t0 ≤ T) (hm : NMC c S) (hx : S.o c.2.1 0 = 303 → x = -1) (h43 : S.i 43 = 203) (e1 : f_X0_add N (CS.setI (CS.setI S 36 1) 24 ((S.i 24) + 1)) 51 0 = some p) (e : f_X7_beginIf N E1 E2 p.2 = some R) (g : f_X12_parse_10 N n s = some U) : (¬ R.2.i 32 = 0 ∧ ¬ U.i 15 = 0) ∨ DMD d B R.2 U ∨ ∃ (m : Nat) (u : RS), f_X12_parse_10 N m u = some U ∧ NEW d B b t0 c L R.2 u (JTR A U B b (c :: L) S s) := by
  obtain ⟨q1, q2, q3, q4, q5, q6⟩ := id hS
  have hv := hC.1
  have k10 := (tk_is hv (a := 203) (b := 413) (Or.inr ⟨by decide, by decide⟩) (by decide)).mp h43
  obtain ⟨m1, s1, g1, w0, a64, a65, i43, i10, ph3, i21, i11, jst⟩ := st_gj hC hS k10 (Or.inl ⟨rfl, rfl⟩) (by decide) e1 g
  have t21 := hC.2.2.2.2.2.2.2.2.1.1
  -- the class, taken apart
  unfold f_X7_beginIf f_X7_conditionInside at e
  obtain ⟨x1, ex1, e⟩ := hf_bind e
  obtain ⟨x5, ex5, e⟩ := hf_bind e
  obtain ⟨x9, ex9, e⟩ := hf_bind e
  obtain ⟨y1, ey1, ex9⟩ := hf_bind ex9
  obtain ⟨y5, ey5, ex9⟩ := hf_bind ex9
  obtain ⟨y9, ey9, ex9⟩ := hf_bind ex9
  obtain ⟨hb01, ex9⟩ := hf_ite ex9
  cases ex9
  obtain ⟨x13, ex13, e⟩ := hf_bind e
  obtain ⟨x17, ex17, e⟩ := hf_bind e
  have fR : x17.2.i 32 = R.2.i 32 := by
    cases hr : x17.1 with
    | none =>
      rw [hr] at e
      exact absurd (show (none : Option (Unit × CS)) = some R from e) (fun z => by cases z)
    | some a =>
      rw [hr] at e
      have e' : (if oK x17.2 a 0 then some ((), CS.setO x17.2 a 10 x1.1) else none) = some R := e
      obtain ⟨-, e'⟩ := hf_ite e'
      cases e'
      rfl
  have f9 : ¬ y9.2.i 32 = 0 → ¬ R.2.i 32 = 0 := fun z => by
    have z1 : ¬ x13.2.i 32 = 0 := by rw [fst_add ex13]; exact z
    rw [← fR, kF_X6_push N x13.2 203 _ _ x17 ex17 z1]
    exact z1
  have f5 : ¬ y5.2.i 32 = 0 → ¬ R.2.i 32 = 0 := fun z => f9 (by rw [kF_X1_close N y5.2 41 y9 ey9 z]; exact z)
  have f1 : ¬ y1.2.i 32 = 0 → ¬ R.2.i 32 = 0 := fun z => f5 (by rw [kF_X1_condition N E1 E2 hm1 hm2 y1.2 y5 ey5 z]; exact z)
  -- the reference, to its condition
  have w1 := w0.nt (by rw [i21, i11]; omega) ex1
  obtain ⟨m2, V, hV, g2⟩ := rl_9 g1 w0.2.1 w0.1.1.2.1 a64
  unfold f_X12_branch at hV
  obtain ⟨hib, hV⟩ := hf_ite hV
  rw [tp_nat w0.2.1, if_pos a65] at hV
  obtain ⟨q, hq, hV⟩ := hf_bind hV
  obtain ⟨r, hr, hV⟩ := hf_bind hV
  rw [ob_id] at hV
  have nz : ¬ x1.2.i 43 = 0 := by rw [(nt_i ex1).2.1, i43, h43]; decide
  obtain ⟨w2, f2⟩ := w1.nx hN nz ex5 hq
  rcases w2.op hN (c := 40) (e := 40) (Or.inl ⟨by decide, by decide⟩) (by decide) (by decide) (by decide) ey1 hr with ⟨o1, o2, o3⟩ | ⟨o1, w3, f3⟩
  · exact Or.inl ⟨f1 o2, u_flt g2 (krf_f_X12_then N r.2 1 20 V hV o3)⟩
  have cop := op_cd hN w2.1 (c := 40) (d := 40) (Or.inl ⟨by decide, by decide⟩) (by decide) (by decide) (by decide) ey1 hr o1
  have cad := adv_cd hN w1.1 nz ex5 hq
  have p3 : 3 ≤ phI r.2 := by
    have := w3.2.2.2.2.2.2.1.2.1
    omega
  rcases y_cond hN hm1 hm2 hE2 w3.1 w3.2.1 p3 ey5 hV g2 with ⟨z1, z2⟩ | ⟨m3, u, g3, xo, -, -, xc⟩
  · exact Or.inl ⟨f5 z1, z2⟩
  have w4 := w3.exo xo
  obtain ⟨r0, r1, -⟩ := xo.2.2.1
  have u64 : u.a 64 T = 9 := by
    rw [r0, (f3 (T + 1) T (by omega)).1, (f2 (T + 1) T (by omega)).1]
    exact a64
  -- behind the condition
  obtain ⟨m4, V4, hV4, g4⟩ := rl_9 g3 w4.2.1 w4.1.1.2.1 u64
  unfold f_X12_branch at hV4
  obtain ⟨-, hV4⟩ := hf_ite hV4
  rw [tp_nat w4.2.1, if_neg (show ¬ u.a 65 T = 0 by rw [r1]; decide), if_pos r1] at hV4
  obtain ⟨sh, hsh, hV4⟩ := hf_bind hV4
  obtain ⟨em, hem, hV4⟩ := hf_bind hV4
  rw [ob_id] at hV4
  rcases w4.cl hN hv (by omega) (c := 41) (e := 41) (Or.inl ⟨by decide, by decide⟩) (by decide) (by decide) (by decide) ey9 hsh with ⟨o1, o2, o3⟩ | ⟨o1, w5, f5'⟩
  · refine Or.inl ⟨f9 o2, u_flt g4 (krf_f_X12_body N _ 2 V4 hV4 ?_)⟩
    show ¬ em.2.i 15 = 0
    exact krf_f_X12_emit N sh.2 13 0 em hem o3
  have ccl := cl_cd hN w4.1 (by have := w4.sg hv; omega) (c := 41) (d := 41) (Or.inl ⟨by decide, by decide⟩) (by decide) (by decide) (by decide) ey9 hsh o1
  have p5 : 1 ≤ phI sh.2 := by
    have := w5.2.2.2.2.2.2.1.2.1
    omega
  obtain ⟨w6, f6, e20, n20, -⟩ := w5.em p5 hem
  have w7 := (w6.ad ex13).sa (j := 66) (v := em.1) ⟨by omega, by omega⟩
  have w8 : WAY d T 4 5 0 0 3 S s x13.2 (RS.setA em.2 66 T em.1) := w7.nu (by omega) (by omega) (by omega) (by omega) (by omega)
  have v64 : (RS.setA em.2 66 T em.1).a 64 T = 9 := by
    show em.2.a 64 T = 9
    rw [(f6 (T + 1) T (by omega)).1, (f5' (T + 1) T (by omega)).1]
    exact u64
  have v66 : (RS.setA em.2 66 T em.1).a 66 T = em.1 := setA_at
  have v20 : ((RS.setA em.2 66 T em.1).i 20).toInt = (sh.2.i 20).toInt + 1 := n20
  have l20 : (s.i 20).toInt ≤ (sh.2.i 20).toInt := w5.2.2.2.1.2.1
  obtain ⟨v, hvv⟩ : ∃ v, v = RS.setA em.2 66 T em.1 := ⟨_, rfl⟩
  have qv : qe v = qe em.2 := by rw [hvv]; rfl
  rw [← hvv] at w8 v64 v66 v20 hV4
  have em38 : NMV s em.2 := w6.nv
  have e38v : v.i 38 = em.2.i 38 := by rw [hvv]; rfl
  clear hvv w7 w6
  -- the class's row
  obtain ⟨cP, tP, lP, oP⟩ := hC.way q1 q2 q3 hT w8 ⟨by omega, by omega, by omega, by omega, by omega⟩
  have q54 := hC.2.2.2.2.2.2.2.2.1.2.2
  have n54 := w8.2.2.2.2.2.2.2.2.1
  have sgP := w8.sg hv
  obtain ⟨a, m, ra, psr, evR, sq⟩ := w8.1.row (v := 203) ⟨by decide, by decide, by decide, by decide⟩ (w8.pay hv (by omega)) (by rw [if_neg (by decide), if_neg (by decide)]; exact sgP) (by omega) ex17
  have f0x := psr.2.2.2.2.2.2.2.2.2.1
  rw [ra] at e
  have e' : (if oK x17.2 a 0 then some ((), CS.setO x17.2 a 10 x1.1) else none) = some R := e
  obtain ⟨-, e'⟩ := hf_ite e'
  cases e'
  have evX : ENV d (CS.setO x17.2 a 10 x1.1) v := evR.so (by decide)
  have sqX := sq.so (k := 10) (w := x1.1) ⟨by decide, by decide, by decide, by decide⟩
  have o5X : (CS.setO x17.2 a 10 x1.1).o a 5 = 0 := (so_nk (by decide)).trans f0x.1
  have x38 : (CS.setO x17.2 a 10 x1.1).i 38 = x13.2.i 38 := psr.2.1 38 (by decide) (by decide)
  have x21 : (CS.setO x17.2 a 10 x1.1).i 21 = x13.2.i 21 := psr.2.1 21 (by decide) (by decide)
  obtain ⟨X, hX⟩ : ∃ X, X = CS.setO x17.2 a 10 x1.1 := ⟨_, rfl⟩
  show _ ∨ DMD d B (CS.setO x17.2 a 10 x1.1) U ∨ ∃ (m : Nat) (u : RS), f_X12_parse_10 N m u = some U ∧ NEW d B b t0 c L (CS.setO x17.2 a 10 x1.1) u (JTR A U B b (c :: L) S s)
  have peX : pe X = pe x17.2 := by rw [hX]; rfl
  have aX : X.a = x17.2.a := by rw [hX]; rfl
  have iX : X.i = x17.2.i := by rw [hX]; rfl
  have oX : X.o a 10 = x1.1 := by rw [hX]; exact so_at
  rw [← hX] at evX sqX o5X x38 x21 ⊢
  clear hX
  refine Or.inr ?_
  obtain ⟨zX, ⟨r53, r54, r55, r52⟩, ⟨r50, r56, r36⟩, ⟨m1', m2', rr1⟩, ⟨g0, g1', g3', g14⟩, -⟩ := id sqX
  rcases r_body evX.1.2.1 hV4 g4 with ⟨z1, z2⟩ | ⟨hth, n410, n411, -⟩
  · refine Or.inl ⟨z1, ⟨v, evX, z2⟩, r36.trans w8.2.2.2.2.2.1.2.2.2.2, a, m, by omega, ⟨m2', by have z9 := hC.2.2.2.2.1.2.2.1; have z8 := w8.2.2.2.2.2.1.2.2.1; rw [z8] at m1'; omega⟩, rr1, by rw [g0]; exact Or.inl rfl, o5X⟩
  refine Or.inr ?_
  obtain ⟨hV', t99⟩ := r_then w8.2.1 hth
  rw [hV'] at g4
  obtain ⟨u', hu'⟩ : ∃ y, y = TH v T 2 2 := ⟨_, rfl⟩
  have evu : ENV d X u' := by rw [hu']; exact evX.th
  have fu : FRB T v u' := by rw [hu']; exact TH.frb
  have ku : TBK v u' := by rw [hu']; exact TH.tbk
  have iu : ∀ k : Nat, k ≠ 63 → u'.i k = v.i k := by
    rw [hu']
    exact fun k h => if_neg h
  have u64' : u'.a 64 T = 9 := by
    rw [hu', TH.fk0 (Nat.le_refl T)]
    exact v64
  have u65' : u'.a 65 T = 2 := by rw [hu']; exact TH.st
  have u66' : u'.a 66 T = em.1 := by
    rw [hu']
    exact v66
  have u641 : u'.a 64 (T + 1) = 2 := by rw [hu']; exact TH.fk
  have u651 : u'.a 65 (T + 1) = 0 := by rw [hu']; exact TH.fs
  have tu : tpI u' = ((T + 1 : Nat) : Int) := by rw [hu']; exact TH.tp w8.2.1 (by omega)
  have pa : u'.a 60 = v.a 60 ∧ u'.a 61 = v.a 61 ∧ u'.a 62 = v.a 62 := by
    rw [hu']
    exact ⟨rfl, rfl, rfl⟩
  have qu : qe u' = qe v := by rw [hu']; rfl
  rw [← hu'] at g4
  clear hu' hV'
  -- from where the statement began
  have hin := hC.inl q1 q3
  obtain ⟨wv1, wv2, wf, wt, wz, ⟨j38, j50, j53, j56, j36⟩, ⟨n11, nph, n17, n19⟩, ⟨n21, n54', n55⟩⟩ := id w8
  have tbq : TBK s u' := wt.tr ku
  have fq : FRB T s u' := wf.tr fu
  obtain ⟨t1, t2, t3, t4, t5, t6, t7, t8, t9, t10⟩ := tbq.1.1
  have ckall : CKZ S X := wz.tr j53 zX
  have eo := (hin.o ckall c List.mem_cons_self).1
  have low : LOW X u' c := q2.mv eo fq (by omega)
  have ng : ¬ isGo (X.o a 0) := by
    unfold isGo
    rw [g0]
    decide
  have nt : ¬ isTy (X.o a 0) := by
    unfold isTy
    rw [g0]
    decide
  have nw : ¬ isWl (X.o a 0) := by
    unfold isWl
    rw [g0]
    decide
  have one : isOne (X.o a 0) := by
    rw [g0]
    exact Or.inl rfl
  have wd : wid (X.o a 0) = 1 := by
    rw [g0]
    rfl
  have dp0 : nDp (X.o a 0) = 0 := by
    rw [g0]
    rfl
  have db0 : dbt (X.o a 0) = 0 := by
    rw [g0]
    rfl
  have o1i : (X.o a 1).toInt = (x13.2.i 54).toInt + 1 := by
    rw [g1', ad1 (by have := w8.1.sj.1; omega) (by have := w8.1.sj.2.1; have := (i11_hi w8.1).2; omega)]
  have u11 : u'.i 11 = v.i 11 := iu 11 (by decide)
  have z44 : S.i 44 = s.i 11 := hv.1.2.2.2.1.1
  have z45 : X.i 44 = v.i 11 := evX.1.2.2.2.1.1
  have rte : RTE S X := by
    unfold RTE
    rw [z44, z45, x21, r54, r55]
    omega
  have iar : IAR X u' := by
    obtain ⟨⟨z1, z2⟩, z3⟩ := hC.2.2.2.2.2.2.2.2.2.1
    have e56 : X.i 56 = S.i 56 := r56.trans j56
    unfold IAR
    rw [e56, t5]
    refine ⟨⟨fun z => ?_, fun z => ?_⟩, fun z => ?_⟩
    · obtain ⟨g, w1, w2⟩ := z1 z
      exact ⟨g, w1, (tbq.1.2.2.1 g w1).1.trans w2⟩
    · obtain ⟨g, w1, w2⟩ := z
      exact z2 ⟨g, w1, (tbq.1.2.2.1 g w1).1.symm.trans w2⟩
    · obtain ⟨w1, w2, a', w3⟩ := z3 z
      exact ⟨by rw [r53, j53]; omega, w2, a', (ckall.2.1 _ (by omega)).trans w3⟩
  have lb : LBC X u' (c :: L) (-1) := by
    have z := hC.2.2.2.1
    have z2 : LBC S s (c :: L) (-1) := by
      by_cases w : S.o c.2.1 0 = 303
      · rw [hx w] at z
        exact z
      · exact z.no w
    exact LBC.mv (c :: L) (-1) z2 (fun y hy => (hin.o ckall y hy).1) (fun y hy w => (tbq.1.2.2.1 (ceG y) ((hin y hy).2.2.2.1 (Or.inl w))).2.2.1)
  obtain ⟨c1, hc1⟩ : ∃ c1 : CEL, c1 = (c.1 + 1, a, T, ceG c + nGo (S.o c.2.1 0), ceW c + nWl (S.o c.2.1 0)) := ⟨_, rfl⟩
  have v1 : c1.1 = c.1 + 1 := by rw [hc1]
  have v2 : c1.2.1 = a := by rw [hc1]
  have v3 : ceT c1 = T := by rw [hc1]; rfl
  have v4 : ceG c1 = ceG c + nGo (S.o c.2.1 0) := by rw [hc1]; rfl
  have v5 : ceW c1 = ceW c + nWl (S.o c.2.1 0) := by rw [hc1]; rfl
  clear hc1
  have em1 : m = c.1 + 1 := by
    have a1 := q1.1
    rw [j53] at m1'
    omega
  obtain ⟨b29, b30, b0, col, hc⟩ := id hC.2.2.2.2.2.2.2.2.2.2
  have s20 : 0 ≤ (s.i 20).toInt := by
    have := hC.2.2.2.2.2.1.2.2.1.1
    omega
  have hcol : ∃ col : Nat → Option (Nat × Bool), COL X u' (c1 :: c :: L) col (b.i 20).toInt := by
    refine ⟨col, (hc.mv b0 hin ckall fq tbq.1.r tbq.2).addp ?_ ?_ ?_⟩
    · rw [v2]
      exact ng
    · rw [v2, g0]
      decide
    · intro k z
      have hk : k = (sh.2.i 20).toInt := by
        unfold PLF at z
        rw [v2, g0, v3] at z
        rcases z with ⟨-, z⟩ | ⟨z, -⟩ | ⟨z | z, -⟩
        · rw [z, u66', e20]
        · exact absurd z (by decide)
        · exact absurd z (by decide)
        · exact absurd z (by decide)
      have fr := hc.fresh s20 (k := k) (by omega)
      have bs := hC.2.2.2.2.2.1.2.2.1.1
      refine ⟨by omega, by rw [iu 20 (by decide)]; omega, fr.1, fun y hy t => ?_⟩
      rw [(hin.o ckall y hy).1] at t
      have w1 := wid1 (S.o y.2.1 0)
      have w2 := (hin y hy).2.2.1
      rw [(fq (ceT y) (by omega)).2.2.1]
      exact fr.2 y hy t
  have jq := cP.2.2.1
  have hinP : INL x13.2 v T (c :: L) := cP.inl tP (by rw [oP]; exact q3)
  have eP : ∀ y ∈ c :: L, X.o y.2.1 = x13.2.o y.2.1 := fun y hy => (hinP.o zX y hy).1
  obtain ⟨-, -, -, -, -, -, j7, -⟩ := jq
  obtain ⟨k1, k2, k3, k4, k5⟩ := j7 c List.mem_cons_self
  rw [oP] at k1 k2 k3 k4 k5
  have nph' : phI u' = phI v := by
    unfold phI
    rw [iu 17 (by decide), iu 20 (by decide)]
  have n8 := hC.2.2.2.2.2.2.2.2.1.2.1
  have nmsP := w8.1.2.1.1
  refine ⟨m4, u', g4, c1, hC.push hin hT evu fq tbq.1.r tbq.2 ⟨t1, t2, t3, t8, t9, t10⟩ (by rw [t5]; exact Int.le_refl _) (by rw [t7]; exact Int.le_refl _) ckall cP.2.2.1 hinP eP fu (fun y hy z v' => by
    have w := ku.1.2.2.1 (ceG y) ((hinP y hy).2.2.2.1 z)
    unfold flg
    rw [w.2.2.2.2.1, w.2.2.2.2.2.1]) cP.jp.1 cP.jp.2 r54 r55 r52 ?_ (by rw [r53, j53]; omega) rte ⟨by rw [u11]; omega, by rw [v2, db0, nph']; omega, by rw [iu 17 (by decide)]; omega, by rw [v2, g0, iu 19 (by decide)]; show _ = (s.i 19).toInt + 0; omega⟩ (by rw [r54, u11]; omega) (by rw [x21, u11]; omega) (by rw [t4, u11]; omega) (by rw [t4]; exact Int.le_refl _) (iu 59 (by decide)) pa.1 pa.2.1 pa.2.2 (CST.pl (by rw [v1, v2, ← em1]; exact rr1) (by rw [v1]; omega) (by rw [v2, v3]; exact RFR.m203 g0 ⟨u64', u65'⟩) (by rw [v2, g0]; decide) (by rw [v2]; exact nt)) ⟨v1, by rw [v3, eo]; exact q3, by rw [v4, eo], by rw [v5, eo], by rw [v2, eo, o1i]; omega, by rw [v2, eo, g14]; exact k4, fun w => by rw [v2, eo, g14]; rw [eo] at w; exact (k5 w).2, fun w1 w2 w3 => by rw [v2, eo, g3', j50]; rw [eo] at w1 w2 w3; exact hm w1 w2 w3, by rw [v2, g0]; unfold isKS isOne isTy; decide⟩ low ?_ iar hcol (by rw [v2]; exact o1i) (by rw [v2]; exact g14) (by rw [v2, g0]; decide) (fun w => absurd w (by rw [v2]; exact ng)) (fun w => absurd w (by rw [v2]; exact nt)) (r56.trans j56) (by rw [v2, g3']; exact j50), ⟨?_, ?_, ?_⟩, ⟨Or.inr (Or.inl ⟨by rw [v2]; exact one, by rw [v2]; exact o5X, by rw [v3]; exact tu, by rw [v3]; exact u641, by rw [v3]; exact u651, r36.trans j36, (by rw [iu 10 (by decide)]; exact ⟨n410, n411⟩), fun _ _ _ => by rw [v2, g3', r50]⟩), Or.inr (r36.trans j36)⟩, fun _ jw => ?_⟩
  · rw [v2, dp0, x38, j38]
    omega
  · unfold LBC
    rw [v2, if_neg (by rw [g0]; decide), if_neg (by rw [g0]; decide)]
    exact lb
  · rw [r53, j53, v1]
    have := q1.1
    omega
  · rw [v2, v4, nGo.eq ng, t5, q1.2.1]
    omega
  · rw [v2, v5, nWl.eq nw, t7, q1.2.2]
    omega
  · have veq : vws X u' (c :: L) = vws S s (c :: L) := vws.eq (T := T) ((NMV.tbk tbq).2) (c :: L) hC.o3 (fun y hy => (hin.o ckall y hy).1) fq (fun y hy => by
      have w1 := wid1 (S.o y.2.1 0)
      have w2 := (hin y hy).2.2.1
      omega)
    show JRW A U B b (vw X u' c1 :: vws X u' (c :: L)) X u'
    rw [veq]
    obtain ⟨z1, z2, z3, z4, z5, z6, -⟩ := cad
    obtain ⟨o1', o2', o3', o4', o5', o6'⟩ := cop
    obtain ⟨l1, l2, l3, l4, l5, l6⟩ := ccl
    have ntp : x1.2.i 20 = p.2.i 20 := by
      unfold f_X0_newTarget at ex1
      cases ex1
      rfl
    have pa1 := psr.1.1
    have l19 := w3.l19
    have l11 := w3.l11
    have i13 : x13.2.i 50 = em.2.i 38 := w8.1.2.1.1.trans e38v
    exact JRW.ifs (C1 := y1.2) (C2 := y5.2) (C3 := y9.2) (z1 := r.2) (z2 := u) (z3 := sh.2) (jst.go jw (Or.inl rfl) hv.2.1.1) w0.1 ex1 ((z1.tr o1').wk (by omega) (by omega)) (fun a b => (z2 a b).tr (o2' a b)) (o4'.trans (z4.trans ntp)) (fun k => (z3 k).tr (o3' k)) (o6'.trans z6) (w0.nv.dif w3.nv) xc.1 w3.1 (w3.nv.dif w4.nv) w4.1 l1 l2 l4 l3 l6 (w4.nv.dif w5.nv) w5.1 p5 ex13 hem ((CD1.pe (b := 0) (peX.trans (ke_X6_push N x13.2 203 _ _ x17 ex17)) x21 (by rw [iX]; exact psr.2.1 50 (by decide) (by decide)) (by rw [aX, pa1]) (by rw [aX, pa1]) (by rw [iX, psr.2.1 44 (by decide) (by decide)]; omega)).wk (by omega) (by omega)) (fun _ _ => CT7.eq (by rw [aX, pa1])) (by rw [iX]; exact psr.2.1 20 (by decide) (by decide)) (fun _ => (CD2.qe qv).tr (CD2.qe qu)) ((qe_eq qu).1.1.trans (qe_eq qv).1.1) i13 (em38.dif (NMV.tbk tbq)) (show X.o c1.2.1 0 = 203 by rw [v2]; exact g0) (show X.o c1.2.1 10 = x1.1 by rw [v2]; exact oX) (show (vw X u' c1).2.1 66 = em.1 by rw [vw_at (k := 66) ⟨by decide, by decide⟩, v3]; exact u66') (r36.trans j36) (GKP.tbk tbq) ⟨by omega, by rw [u11]; omega⟩ ⟨by omega, by rw [iu 19 (by decide)]; omega⟩ (vws.pl1 hC v1)
end
section
/-! both readers: where the labels of a loop go -/
/-- all but the labels' loops is the same -/
def E46 (s u : RS) : Prop := u.i = s.i ∧ u.l = s.l ∧ u.b = s.b ∧ ∀ k : Nat, k ≠ 46 → u.a k = s.a k
theorem E46.rf (s : RS) : E46 s s := ⟨rfl, rfl, rfl, fun _ _ => rfl⟩
theorem E46.tr {s u w : RS} (h : E46 s u) (g : E46 u w) : E46 s w := ⟨g.1.trans h.1, g.2.1.trans h.2.1, g.2.2.1.trans h.2.2.1, fun k hk => (g.2.2.2 k hk).trans (h.2.2.2 k hk)⟩
def s46 (s : RS) (f : Nat → Int32) : RS := (s.i, s.l, va_up s.a 46 f, s.b)
theorem s46.at {s : RS} {f : Nat → Int32} : (s46 s f).a 46 = f := by
  show va_up s.a 46 f 46 = f
  unfold va_up
  exact if_pos rfl
theorem s46.e {s : RS} {f : Nat → Int32} : E46 s (s46 s f) := ⟨rfl, rfl, rfl, fun k hk => if_neg hk⟩
theorem chn.e46 {s u : RS} (h : E46 s u) : ∀ (L : List Nat) (k : Int32), chn s k L → chn u k L
  | [], _, g => g
  | j :: L, k, g => ⟨g.1, by rw [h.1]; exact g.2.1, g.2.2.1, by rw [h.2.2.2 27 (by decide)]; exact chn.e46 h L _ g.2.2.2⟩
theorem kch.e46 {s u : RS} (h : E46 s u) : ∀ (L : List Nat) (k : Int32), kch s k L → kch u k L
  | [], _, g => g
  | j :: L, k, g => ⟨g.1, by rw [h.1]; exact g.2.1, g.2.2.1, by rw [h.2.2.2 37 (by decide)]; exact kch.e46 h L _ g.2.2.2⟩
theorem RFR.e46 {S : CS} {s u : RS} {a t g w : Nat} (h : E46 s u) (r : RFR S s a t g w) : RFR S u a t g w := by
  have a64 := h.2.2.2 64 (by decide)
  have a65 := h.2.2.2 65 (by decide)
  have a66 := h.2.2.2 66 (by decide)
  have a67 := h.2.2.2 67 (by decide)
  have a68 := h.2.2.2 68 (by decide)
  have a71 := h.2.2.2 71 (by decide)
  have a72 := h.2.2.2 72 (by decide)
  have a73 := h.2.2.2 73 (by decide)
  have a44 := h.2.2.2 44 (by decide)
  have a57 := h.2.2.2 57 (by decide)
  have a58 := h.2.2.2 58 (by decide)
  unfold RFR F301 F302 F303 F203 F204 F205 F206 F207 F304 F212 F301 F218 FTR FTS F301 FBL at *
  rw [a64, a65, a66, a67, a68, a71, a72, a73, a44, a57, a58, h.1, h.2.2.1]
  exact r
theorem CST.e46 {S : CS} {s u : RS} {c : CEL} {m e k m' e' k' : Int} (h : E46 s u) (g : CST S s c m e k m' e' k') : CST S u c m e k m' e' k' := by
  obtain ⟨g1, g2, g3, g4, g5, g6, g7⟩ := g
  have a66 := h.2.2.2 66 (by decide)
  refine ⟨g1, g2, g3.e46 h, g4, fun q => ?_, g6, fun q => ?_⟩
  · obtain ⟨x1, x2, x3, L, y1, y2, y3, y4⟩ := g5 q
    rw [a66, h.2.2.2 22 (by decide), h.1]
    refine ⟨x1, x2, x3, L, ?_, chn.e46 h _ _ y2, ?_, y4⟩
    · unfold CSM at *
      rw [h.2.2.2 28 (by decide), h.2.2.2 25 (by decide)]
      exact y1
    · unfold FQL at *
      rw [h.2.2.2 67 (by decide)]
      exact y3
  · obtain ⟨x1, L, y1, y2, y3, y4⟩ := g7 q
    rw [a66, h.2.2.2 30 (by decide), h.2.2.2 72 (by decide)]
    refine ⟨x1, L, kch.e46 h _ _ y1, ?_, y3, y4⟩
    unfold KMK at *
    rw [h.2.2.2 34 (by decide)]
    exact y2
theorem LOW.e46 {S : CS} {s u : RS} {c : CEL} (h : E46 s u) (g : LOW S s c) : LOW S u c := by
  unfold LOW at *
  rw [h.2.2.2 65 (by decide), h.2.2.2 64 (by decide)]
  exact g
theorem STK.e46 {S : CS} {s u : RS} (h : E46 s u) : ∀ (L : List CEL) (m e k : Int), STK S s L m e k → STK S u L m e k
  | [], _, _, _, _ => trivial
  | c :: L, m, e, k, g => by
    obtain ⟨m', e', k', g1, g2, g3⟩ := g
    exact ⟨m', e', k', g1.e46 h, fun c0 hc => ⟨(g2 c0 hc).1, (g2 c0 hc).2.e46 h⟩, STK.e46 h L m' e' k' g3⟩
theorem JMQ.e46 {S : CS} {s u : RS} {L : List CEL} {B59 B29 : Int} (h : E46 s u) (g : JMQ S s L B59 B29) : JMQ S u L B59 B29 := by
  unfold JMQ flg PND at *
  rw [h.2.2.2 50 (by decide), h.2.2.2 51 (by decide), h.2.2.2 60 (by decide), h.2.2.2 61 (by decide), h.2.2.2 62 (by decide), h.2.2.2 66 (by decide), h.1]
  exact g
theorem COL.e46 {S : CS} {s u : RS} {L : List CEL} {col : Nat → Option (Nat × Bool)} {b20 : Int} (h : E46 s u) (g : COL S s L col b20) : COL S u L col b20 := by
  unfold COL PLF at *
  rw [h.2.2.2 22 (by decide), h.2.2.2 48 (by decide), h.2.2.2 49 (by decide), h.2.2.2 66 (by decide), h.2.2.2 67 (by decide), h.2.2.2 68 (by decide), h.1]
  exact g
theorem ENV.e46 {d : Int32} {S : CS} {s u : RS} (h : E46 s u) (g : ENV d S s) : ENV d S u := by
  obtain ⟨ei, el, eb, ea⟩ := h
  refine g.kq (by rw [ei]) (by rw [ei]) (by rw [ei]) (by rw [ei]) (by rw [ei]) (by rw [ei]) (by rw [ei]) (ea 1 (by decide)) (ea 4 (by decide)) (ea 41 (by decide)) (by rw [eb]) (by rw [eb]) (by rw [ei]) (by rw [ei]) (by rw [ei]) (by rw [ei]) (by rw [ei]) (by rw [ei]) (by rw [ei]) el ?_ ?_
  · unfold phI
    rw [ei]
    exact ⟨g.2.2.2.2.2.2.1, g.2.2.2.2.2.2.2.1⟩
  · have w := g.wp
    unfold WPI at *
    rw [ei, ea 58 (by decide), ea 62 (by decide)]
    exact w
/-- the labels at the top get another loop -/
theorem COR.e46 {d : Int32} {B : CS} {b : RS} {t0 : Nat} {L : List CEL} {x x' : Int} {S : CS} {s u : RS} (h : COR d B b t0 L x S s) (g : E46 s u) (hb : ∀ j : Nat, (j : Int) < (b.i 43).toInt → u.a 46 j = s.a 46 j) (lb : LBC S u L x') : COR d B b t0 L x' S u := by
  obtain ⟨h1, h2, h3, h4, h5, ⟨h6, h7, h8, h9⟩, h10, h13, h14, h17, ⟨h18, h19, h20, col, h21⟩⟩ := h
  obtain ⟨ei, el, eb, ea⟩ := id g
  refine ⟨h1.e46 g, ?_, h3.e46 g, lb, h5, ⟨?_, ?_, ?_, ?_⟩, ?_, ⟨h13.1, h13.2.1, h13.2.2.1, h13.2.2.2.1, fun y hy => ⟨fun t z => by rw [g.2.2.2 72 (by decide)] at z ⊢; exact (h13.2.2.2.2 y hy).1 t z, fun t z => by rw [g.2.2.2 67 (by decide)] at z ⊢; exact (h13.2.2.2.2 y hy).2 t z⟩⟩, ?_, ?_, h18, h19, h20, col, h21.e46 g⟩
  · rw [ei]
    exact STK.e46 g _ _ _ _ h2
  · intro j hj
    have z := h6 j hj
    rw [ea 64 (by decide), ea 65 (by decide), ea 66 (by decide), ea 67 (by decide), ea 68 (by decide), ea 69 (by decide), ea 70 (by decide), ea 71 (by decide), ea 72 (by decide), ea 73 (by decide), eb]
    exact z
  · obtain ⟨a1, a2, a3, p0, p1, p2, p3, p4, p5, p6, p7, p8, p9, p10⟩ := h7
    unfold TBB
    rw [ei, eb, ea 40 (by decide), ea 41 (by decide), ea 44 (by decide), ea 47 (by decide), ea 48 (by decide), ea 49 (by decide), ea 50 (by decide), ea 51 (by decide), ea 57 (by decide), ea 58 (by decide), ea 60 (by decide), ea 61 (by decide), ea 62 (by decide), ea 30 (by decide), ea 34 (by decide), ea 37 (by decide), ea 25 (by decide), ea 27 (by decide), ea 28 (by decide)]
    exact ⟨a1, a2, a3, p0, fun j hj => by rw [hb j hj]; exact p1 j hj, p2, p3, p4, p5, p6, p7, p8, p9, p10⟩
  · unfold CDK at *
    rw [ei, ea 22 (by decide)]
    exact h8
  · rw [ei, eb, ea 1 (by decide), ea 4 (by decide)]
    exact h9
  · unfold phI at *
    rw [ei]
    exact h10
  · rw [ei]
    exact h14
  · unfold IAR at *
    rw [ei, ea 44 (by decide)]
    exact h17
end
section
/-! both readers: a loop's labels, the walk -/
/-- the row at the bottom: no goal of its own, the goal below it is an arm's -/
def BOT (b : RS) (S : CS) : List CEL → Prop
  | [] => False
  | [c] => ¬ isGo (S.o c.2.1 0) ∧ (b.i 43).toInt = (ceG c : Int) ∧ (ceG c = 0 ∨ b.a 44 (ceG c - 1) = 3)
  | _ :: c0 :: L => BOT b S (c0 :: L)
theorem BOT.mv {b : RS} {S R : CS} : ∀ (L : List CEL), BOT b S L → (∀ y ∈ L, R.o y.2.1 = S.o y.2.1) → BOT b R L
  | [], h, _ => h
  | [c], h, e => by
    obtain ⟨h1, h2⟩ := h
    refine ⟨?_, h2⟩
    rw [e c List.mem_cons_self]
    exact h1
  | _ :: c0 :: L, h, e => BOT.mv (c0 :: L) h (fun y hy => e y (List.mem_cons_of_mem _ hy))
theorem nGo1 {v : Int32} (h : isGo v) : nGo v = 1 := by
  unfold nGo
  exact if_pos h
/-- goals of the rows below are below -/
theorem STK.gl {b : RS} {S : CS} {s : RS} : ∀ (L : List CEL) (c : CEL) (m e k : Int), STK S s (c :: L) m e k → BOT b S (c :: L) → (b.i 43).toInt ≤ (ceG c : Int) ∧ ∀ y ∈ c :: L, ceG y + nGo (S.o y.2.1 0) ≤ ceG c + nGo (S.o c.2.1 0)
  | [], c, m, e, k, _, hb => by
    refine ⟨by have := hb.2.1; omega, fun y hy => ?_⟩
    rcases List.mem_cons.mp hy with rfl | hy
    · exact Nat.le_refl _
    · exact absurd hy List.not_mem_nil
  | c0 :: L, c, m, e, k, h, hb => by
    obtain ⟨m', e', k', h1, h2, h3⟩ := h
    obtain ⟨l1, -⟩ := h2 c0 rfl
    have l4 := l1.2.2.1
    obtain ⟨i1, i2⟩ := STK.gl L c0 m' e' k' h3 hb
    refine ⟨by omega, fun y hy => ?_⟩
    rcases List.mem_cons.mp hy with rfl | hy
    · exact Nat.le_refl _
    · have := i2 y hy
      omega
/-- the first goal from the top is no label that waits for a loop -/
theorem LBC.stop {b : RS} {S : CS} {s : RS} : ∀ (L : List CEL) (c : CEL) (m e k x : Int), STK S s (c :: L) m e k → LBC S s (c :: L) x → (S.o c.2.1 0 = 303 → ¬ x = -3 ∧ ¬ x = -9) → BOT b S (c :: L) → TBB b s → ∀ j : Nat, ceG c + nGo (S.o c.2.1 0) = j + 1 → ¬ (s.a 44 j = 2 ∧ s.a 46 j = -3)
  | L, c, m, e, k, x, h, lb, hx, hb, tb, j, hj, ⟨z1, z2⟩ => by
    obtain ⟨m', e', k', h1, h2, h3⟩ := h
    by_cases cg : isGo (S.o c.2.1 0)
    · have n1 := nGo1 cg
      have ej : j = ceG c := by omega
      subst ej
      have rf := h1.2.2.1
      have e3 : (-3 : Int32).toInt = -3 := by decide
      rcases id cg with q | q | q | q | q | q
      · unfold LBC at lb
        rw [if_pos q] at lb
        obtain ⟨hx1, hx2⟩ := hx q
        rcases lb.1 with y | y
        · exact hx2 y
        · rw [z2, e3] at y
          exact hx1 y.symm
      · have y := (rf.2.2.2.2.2.2.2.2.2.2.2.1 q).2.2.2.1
        rw [z1] at y
        exact absurd y (by decide)
      · have y := (rf.2.2.2.2.2.2.1 q).2.2.2.2
        rw [z1] at y
        exact absurd y (by decide)
      · have y := (rf.2.2.2.2.2.2.2.1 q).2.2.2
        rw [z1] at y
        exact absurd y (by decide)
      · have y := (rf.2.2.2.2.2.2.2.2.1 q).2.2.2.2.2
        rw [z1] at y
        exact absurd y (by decide)
      · have y := (rf.2.2.2.2.2.2.2.2.2.1 q).1.2.2.2.2
        rw [z1] at y
        exact absurd y (by decide)
    · have n0 := nGo.eq cg
      cases L with
      | nil =>
        obtain ⟨-, b1, b2⟩ := hb
        rcases b2 with y | y
        · omega
        · have ej : ceG c - 1 = j := by omega
          rw [ej] at y
          have t := (tb.2.2.2.2.1 j (by omega)).1
          rw [z1, y] at t
          exact absurd t (by decide)
      | cons c0 L =>
        obtain ⟨l1, -⟩ := h2 c0 rfl
        have l4 := l1.2.2.1
        have lb' : LBC S s (c0 :: L) (-1) := by
          unfold LBC at lb
          rw [if_neg (fun q => cg (Or.inl q)), if_neg (fun q => cg (by
            rcases q with q | q | q | q
            · exact Or.inr (Or.inr (Or.inl q))
            · exact Or.inr (Or.inr (Or.inr (Or.inl q)))
            · exact Or.inr (Or.inr (Or.inr (Or.inr (Or.inl q))))
            · exact Or.inr (Or.inr (Or.inr (Or.inr (Or.inr q))))))] at lb
          exact lb
        exact LBC.stop L c0 m' e' k' (-1) h3 lb' (fun _ => ⟨by decide, by decide⟩) hb tb j (by omega) ⟨z1, z2⟩
/-- the walk: the labels right below the loop get its goal -/
theorem y_walk {N : Nat} {b s0 : RS} {S : CS} {g : Int32} (hg : 0 ≤ g.toInt) : ∀ (n : Nat) (L : List CEL) (c : CEL) (m e k x : Int) (s : RS) (j : Int32) (V : Int32 × RS), STK S s0 (c :: L) m e k → LBC S s0 (c :: L) x → (S.o c.2.1 0 = 303 → x = -3) → BOT b S (c :: L) → TBB b s0 → j.toInt + 1 = (ceG c : Int) + (nGo (S.o c.2.1 0) : Int) → (∀ i : Nat, (i : Int) ≤ j.toInt → s.a 44 i = s0.a 44 i ∧ s.a 46 i = s0.a 46 i) → f_X12_loopGoal_11 N n s g j = some V → V.1 = g ∧ E46 s V.2 ∧ LBC S V.2 (c :: L) g.toInt ∧ (∀ i : Nat, (i : Int) < (b.i 43).toInt ∨ j.toInt < (i : Int) → V.2.a 46 i = s.a 46 i)
  | 0, _, _, _, _, _, _, _, _, _, _, _, _, _, _, _, _, e => by cases e
  | n + 1, L, c, m, e, k, x, s, j, V, st, lb, hx, hb, tb, hj, ag, ev => by
    have ev' : b_X12_loopGoal_11 N (f_X12_loopGoal_11 N n) s g j = some V := ev
    unfold b_X12_loopGoal_11 at ev'
    obtain ⟨gl1, gl2⟩ := STK.gl L c m e k st hb
    have stop : ¬ S.o c.2.1 0 = 303 → f_X12_loopGoal_49 N s g = some V → V.1 = g ∧ E46 s V.2 ∧ LBC S V.2 (c :: L) g.toInt ∧ (∀ i : Nat, (i : Int) < (b.i 43).toInt ∨ j.toInt < (i : Int) → V.2.a 46 i = s.a 46 i) := fun nl h => by
      unfold f_X12_loopGoal_49 at h
      cases h
      refine ⟨rfl, E46.rf s, ?_, fun _ _ => rfl⟩
      exact LBC.mv (c :: L) g.toInt (lb.no nl) (fun _ _ => rfl) (fun y hy q => (ag (ceG y) (by
        have y1 := gl2 y hy
        have y2 := nGo1 (v := S.o y.2.1 0) (Or.inl q)
        omega)).2)
    by_cases c0 : j < 0
    · rw [if_pos c0] at ev'
      have c0' := lt_int c0
      rw [z_t0] at c0'
      refine stop (fun q => ?_) ev'
      have := nGo1 (v := S.o c.2.1 0) (Or.inl q)
      omega
    rw [if_neg c0] at ev'
    obtain ⟨hib, ev'⟩ := hf_ite ev'
    have hjn : ((j.toNatClampNeg : Nat) : Int) = j.toInt := by
      show ((j.toInt.toNat : Nat) : Int) = j.toInt
      omega
    obtain ⟨jn, hjn'⟩ : ∃ jn : Nat, jn = j.toNatClampNeg := ⟨_, rfl⟩
    rw [← hjn'] at ev' hjn
    have agj := ag jn (by omega)
    by_cases d1 : s.a 44 jn = 2 ∧ s.a 46 jn = -3
    · rw [if_pos d1.1, if_pos d1.2] at ev'
      have isl : S.o c.2.1 0 = 303 := by
        by_cases q : S.o c.2.1 0 = 303
        · exact q
        · exact absurd ⟨agj.1.symm.trans d1.1, agj.2.symm.trans d1.2⟩ (LBC.stop L c m e k x st lb (fun z => absurd z q) hb tb jn (by omega))
      have n1 := nGo1 (v := S.o c.2.1 0) (Or.inl isl)
      have x3 := hx isl
      have ejc : jn = ceG c := by omega
      have jm : (j + (-1)).toInt = j.toInt - 1 := by
        have y1 := hib.1
        have y2 := hib.2
        have em : (-1 : Int32).toInt = -1 := by decide
        rw [toInt_add] <;> rw [em] <;> omega
      cases L with
      | nil => exact absurd (Or.inl isl) hb.1
      | cons c1 L =>
        obtain ⟨m', e', k', h1, h2, h3⟩ := st
        obtain ⟨l1, -⟩ := h2 c1 rfl
        have l4 := l1.2.2.1
        unfold LBC at lb
        rw [if_pos isl, x3, if_neg (by decide)] at lb
        obtain ⟨r1, r2, r3, r4⟩ := y_walk hg n L c1 m' e' k' (-3) (RS.setA s 46 jn g) (j + (-1)) V h3 lb.2 (fun _ => rfl) hb tb (by omega) (fun i hi => by
          have z := ag i (by omega)
          refine ⟨z.1, ?_⟩
          rw [setA_ne (by omega)]
          exact z.2) ev'
        refine ⟨r1, E46.tr (show E46 s (RS.setA s 46 jn g) from ⟨rfl, rfl, rfl, fun q hq => setA_nk hq⟩) r2, ?_, fun i hi => ?_⟩
        · unfold LBC
          rw [if_pos isl, if_neg (show ¬ g.toInt = -1 by omega)]
          refine ⟨Or.inr ?_, r3⟩
          rw [← ejc, r4 jn (Or.inr (by omega)), show (RS.setA s 46 jn g).a 46 jn = g from setA_at]
        · rw [r4 i (by omega), setA_ne (by omega)]
    · have st2 : f_X12_loopGoal_49 N s g = some V := by
        by_cases d2 : s.a 44 jn = 2
        · rw [if_pos d2, if_neg (fun z => d1 ⟨d2, z⟩)] at ev'
          exact ev'
        · rw [if_neg d2] at ev'
          exact ev'
      refine stop (fun q => d1 ?_) st2
      have n1 := nGo1 (v := S.o c.2.1 0) (Or.inl q)
      have ejc : jn = ceG c := by omega
      obtain ⟨m', e', k', h1, -, -⟩ := st
      have rf := (h1.2.2.1.2.2.2.1 q).2.2.2.1
      unfold LBC at lb
      rw [if_pos q, hx q] at lb
      have y : (s0.a 46 (ceG c)).toInt = -3 := lb.1.resolve_left (by decide)
      refine ⟨by rw [agj.1, ejc]; exact rf, ?_⟩
      rw [agj.2, ejc]
      exact Int32.toInt_inj.mp (by rw [y]; decide)
end
section
/-! both readers: a goal more -/
def GOA (s x : RS) (w : Int32) (n : Int64) : Prop := (∀ k : Nat, k ≠ 43 → x.i k = s.i k) ∧ x.l = s.l ∧ (∀ k : Nat, k < 44 ∨ k = 45 ∨ 51 < k → x.a k = s.a k) ∧ (∀ k j : Nat, (j : Int) < (s.i 43).toInt → x.a k j = s.a k j) ∧ (∀ k : Nat, k ≠ 45 → x.b k = s.b k) ∧ (∀ j : Nat, (j : Int) < (s.i 43).toInt → x.b 45 j = s.b 45 j) ∧ (0 ≤ (s.i 43).toInt ∧ (s.i 43).toInt < 460 ∧ (x.i 43).toInt = (s.i 43).toInt + 1) ∧ (∀ g : Nat, (s.i 43).toInt = (g : Int) → (x.a 44 g = w ∧ x.b 45 g = n) ∧ (x.a 46 g = -1 ∧ x.a 48 g = -1 ∧ x.a 49 g = -1) ∧ x.a 50 g = 0 ∧ x.a 51 g = 0)
theorem g_goa {N : Nat} {u : RS} {w : Int32} {n : Int64} {V : Int32 × RS} (h : f_X12_goal N u w n = some V) : V.1 = u.i 43 ∧ GOA u V.2 w n := by
  obtain ⟨⟨h0, h4⟩, rfl⟩ := g_goal h
  have gn : (((u.i 43).toNatClampNeg : Nat) : Int) = (u.i 43).toInt := gN (u := u) h0
  refine ⟨rfl, fun k hk => GO.eI hk, rfl, fun k hk => GO.eA hk, fun k j hj => GO.lo (by omega), fun k hk => ?_, fun j hj => ?_, ⟨h0, h4, GO.eGO (u := u) h0 h4⟩, fun g hg => ?_⟩
  · show va_up u.b 45 _ k = u.b k
    unfold va_up
    exact if_neg hk
  · show va_up u.b 45 (vp_updL (u.b 45) (u.i 43).toNatClampNeg n) 45 j = u.b 45 j
    unfold va_up vp_updL
    rw [if_pos rfl]
    exact if_neg (by omega)
  · have eg : g = (u.i 43).toNatClampNeg := by omega
    subst eg
    refine ⟨⟨GO.a44, ?_⟩, ⟨GO.a46, GO.a48, GO.a49⟩, GO.a50, GO.a51⟩
    show va_up u.b 45 (vp_updL (u.b 45) (u.i 43).toNatClampNeg n) 45 (u.i 43).toNatClampNeg = n
    unfold va_up vp_updL
    rw [if_pos rfl]
    exact if_pos rfl
theorem GOA.env {d : Int32} {S : CS} {s x : RS} {w : Int32} {n : Int64} (h : GOA s x w n) (g : ENV d S s) : ENV d S x := by
  obtain ⟨h1, h2, h3, h4, h5, h6, ⟨h7, h8, h9⟩, h10⟩ := h
  have e := fun k hk => h1 k hk
  refine g.kq (e 38 (by decide)) (e 2 (by decide)) (e 3 (by decide)) (e 18 (by decide)) (e 53 (by decide)) (e 54 (by decide)) (e 55 (by decide)) (h3 1 (by decide)) (h3 4 (by decide)) (h3 41 (by decide)) (h5 9 (by decide)) (h5 39 (by decide)) (e 10 (by decide)) (e 11 (by decide)) (e 12 (by decide)) (e 14 (by decide)) (e 15 (by decide)) (e 17 (by decide)) (e 19 (by decide)) h2 ?_ ?_
  · unfold phI
    rw [e 17 (by decide), e 20 (by decide)]
    exact ⟨g.2.2.2.2.2.2.1, g.2.2.2.2.2.2.2.1⟩
  · have w := g.wp
    unfold WPI at *
    rw [h9, e 56 (by decide), e 59 (by decide), e 29 (by decide), h3 58 (by decide), h3 62 (by decide)]
    exact ⟨⟨by omega, w.1.2.1, fun z => by have := w.1.2.2.1 z; omega, w.1.2.2.2⟩, w.2⟩
theorem GOA.frb {s x : RS} {w : Int32} {n : Int64} (h : GOA s x w n) (t : Nat) : FRB t s x := fun j _ => by
  obtain ⟨h1, h2, h3, h4, h5, h6, h7, h8⟩ := h
  rw [h3 64 (by decide), h3 65 (by decide), h3 66 (by decide), h3 67 (by decide), h3 68 (by decide), h3 69 (by decide), h3 70 (by decide), h3 71 (by decide), h3 72 (by decide), h3 73 (by decide), h5 74 (by decide)]
  exact ⟨rfl, rfl, rfl, rfl, rfl, rfl, rfl, rfl, rfl, rfl, rfl⟩
theorem GOA.tbr {s x : RS} {w : Int32} {n : Int64} (h : GOA s x w n) : TBR s x := by
  obtain ⟨h1, h2, h3, h4, h5, h6, h7, h8⟩ := h
  refine ⟨fun j _ => ⟨by rw [h5 39 (by decide)], by rw [h3 40 (by decide)], by rw [h3 41 (by decide)]⟩, fun j hj => ⟨h4 44 j hj, h6 j hj, h4 46 j hj, h4 47 j hj, h4 50 j hj, h4 51 j hj, h4 48 j hj, h4 49 j hj⟩, fun j _ => ⟨by rw [h3 57 (by decide)], by rw [h3 58 (by decide)]⟩, ⟨by rw [h1 59 (by decide)]; exact Int.le_refl _, fun j k1 k2 => by rw [h1 59 (by decide)] at k2; omega⟩, fun j _ => ⟨by rw [h3 60 (by decide)], by rw [h3 61 (by decide)], by rw [h3 62 (by decide)]⟩, by rw [h1 29 (by decide)]; exact Int.le_refl _, fun j _ => by rw [h3 30 (by decide)], by rw [h1 33 (by decide)]; exact Int.le_refl _, fun j _ => ⟨by rw [h3 34 (by decide)], by rw [h3 37 (by decide)]⟩, by rw [h1 24 (by decide)]; exact Int.le_refl _, fun j _ => ⟨by rw [h3 25 (by decide)], by rw [h3 27 (by decide)], by rw [h3 28 (by decide)]⟩⟩
/-- the tables, where the labels' loops are taken as they will be -/
theorem TBR.e46 {s x v : RS} (h : TBR s x) (g : E46 x v) : TBR (s46 s (v.a 46)) v := by
  obtain ⟨q0, q1, q2, ⟨q3a, q3b⟩, q4, q5, q6, q7, q8, q9, q10⟩ := h
  obtain ⟨ei, el, eb, ea⟩ := g
  have si : (s46 s (v.a 46)).i = s.i := rfl
  have sb : (s46 s (v.a 46)).b = s.b := rfl
  have sa : ∀ k : Nat, k ≠ 46 → (s46 s (v.a 46)).a k = s.a k := fun k hk => if_neg hk
  have s6 : (s46 s (v.a 46)).a 46 = v.a 46 := s46.at
  unfold TBR
  rw [si, sb, ei, eb, s6, sa 40 (by decide), sa 41 (by decide), sa 44 (by decide), sa 47 (by decide), sa 48 (by decide), sa 49 (by decide), sa 50 (by decide), sa 51 (by decide), sa 57 (by decide), sa 58 (by decide), sa 60 (by decide), sa 61 (by decide), sa 62 (by decide), sa 30 (by decide), sa 34 (by decide), sa 37 (by decide), sa 25 (by decide), sa 27 (by decide), sa 28 (by decide), ea 40 (by decide), ea 41 (by decide), ea 44 (by decide), ea 47 (by decide), ea 48 (by decide), ea 49 (by decide), ea 50 (by decide), ea 51 (by decide), ea 57 (by decide), ea 58 (by decide), ea 60 (by decide), ea 61 (by decide), ea 62 (by decide), ea 30 (by decide), ea 34 (by decide), ea 37 (by decide), ea 25 (by decide), ea 27 (by decide), ea 28 (by decide)]
  exact ⟨q0, fun j hj => ⟨(q1 j hj).1, (q1 j hj).2.1, rfl, (q1 j hj).2.2.2⟩, q2, ⟨q3a, q3b⟩, q4, q5, q6, q7, q8, q9, q10⟩
/-- a row more with a goal, no switch; what it waits for is new -/
theorem COL.addg {S : CS} {s : RS} {L : List CEL} {c1 : CEL} {col : Nat → Option (Nat × Bool)} {b20 : Int} (h : COL S s L col b20) (gh : isGo (S.o c1.2.1 0) → (s.a 48 (ceG c1)).toInt < 0 ∧ (s.a 49 (ceG c1)).toInt < 0) (ns : ¬ S.o c1.2.1 0 = 218) (np : ∀ k : Int, PLF S s c1 k → b20 ≤ k ∧ k < (s.i 20).toInt ∧ col k.toNat = none ∧ ∀ q ∈ L, S.o q.2.1 0 = 218 → ¬ k = (s.a 66 (ceT q)).toInt) : COL S s (c1 :: L) col b20 := by
  obtain ⟨h1, h2, h3, h4, h5, h6, h7⟩ := h
  refine ⟨h1, h2, fun c hc q => ?_, fun k g e q => ?_, fun c hc q => ?_, fun c hc q hq t1 t2 l => ?_, fun c hc k p => ?_⟩
  · rcases List.mem_cons.mp hc with rfl | hc
    · exact ⟨Or.inl (gh q).1, Or.inl (gh q).2⟩
    · exact h3 c hc q
  · obtain ⟨c, hc, g1, g2⟩ := h4 k g e q
    exact ⟨c, List.mem_cons_of_mem _ hc, g1, g2⟩
  · rcases List.mem_cons.mp hc with rfl | hc
    · exact absurd q ns
    · exact h5 c hc q
  · rcases List.mem_cons.mp hc with rfl | hc
    · exact absurd t1 ns
    · rcases List.mem_cons.mp hq with rfl | hq
      · exact absurd t2 ns
      · exact h6 c hc q hq t1 t2 l
  · rcases List.mem_cons.mp hc with rfl | hc
    · obtain ⟨z1, z2, z3, z4⟩ := np k p
      refine ⟨z1, z2, z3, fun q hq t => ?_⟩
      rcases List.mem_cons.mp hq with rfl | hq
      · exact absurd t ns
      · exact z4 q hq t
    · obtain ⟨z1, z2, z3, z4⟩ := h7 c hc k p
      refine ⟨z1, z2, z3, fun q hq t => ?_⟩
      rcases List.mem_cons.mp hq with rfl | hq
      · exact absurd t ns
      · exact z4 q hq t
/-- as WAY, but names may be told -/
def WAZ (d : Int32) (T : Nat) (p f k y z : Int) (S : CS) (s : RS) (P : CS) (q : RS) : Prop := ENV d P q ∧ tpI q = (T : Int) ∧ FRB T s q ∧ (TBR s q ∧ CDK (s.i 20).toInt s q ∧ NMO s q) ∧ CKZ S P ∧ (P.i 38 = S.i 38 ∧ P.i 53 = S.i 53 ∧ P.i 56 = S.i 56 ∧ P.i 36 = 1) ∧ ((s.i 11).toInt + p ≤ (q.i 11).toInt ∧ phI s + f ≤ phI q ∧ (s.i 17).toInt ≤ (q.i 17).toInt ∧ (q.i 19).toInt = (s.i 19).toInt + k) ∧ ((P.i 21).toInt + 2 * (s.i 11).toInt ≤ (S.i 21).toInt + 2 * (q.i 11).toInt + y ∧ (P.i 54).toInt + (s.i 11).toInt + z ≤ (S.i 54).toInt + (q.i 11).toInt ∧ 6 * (P.i 55).toInt + (s.i 11).toInt ≤ 6 * (S.i 55).toInt + (q.i 11).toInt) ∧ ((s.i 38).toInt ≤ (q.i 38).toInt ∧ (8 * ((s.i 38).toInt - 2) ≤ (s.i 11).toInt → 8 * ((q.i 38).toInt - 2) ≤ (q.i 11).toInt))
theorem WAY.z {d : Int32} {T : Nat} {p f k y z : Int} {S P : CS} {s q : RS} (h : WAY d T p f k y z S s P q) (hp : 0 ≤ p) : WAZ d T p f k y z S s P q := by
  obtain ⟨h1, h2, h3, h4, h5, ⟨i1, i2, i3, i4, i5⟩, h6, h10⟩ := h
  obtain ⟨t1, t2, t3, t4, t5, t6, t7, t8, t9, t10⟩ := h4.1.1
  exact ⟨h1, h2, h3, ⟨h4.1.r, h4.2, ⟨t1, t2, t3, t5, t6, t7, t8, t9, t10⟩⟩, h5, ⟨i1, i3, i4, i5⟩, h6, h10, by rw [t4]; exact Int.le_refl _, fun z => by rw [t4]; omega⟩
theorem COR.waz {d : Int32} {B : CS} {b : RS} {t0 T : Nat} {L : List CEL} {x p f k y z : Int} {S P : CS} {s q : RS} {c : CEL} (hC : COR d B b t0 (c :: L) x S s) (ht : TOP S s c) (lw : LOW S s c) (hw : T = ceT c + wid (S.o c.2.1 0)) (hT : t0 ≤ T) (w : WAZ d T p f k y z S s P q) (n : 0 ≤ p ∧ 0 ≤ f ∧ y ≤ 0 ∧ 0 ≤ z ∧ k = 0) : COR d B b t0 (c :: L) x P q ∧ TOP P q c ∧ LOW P q c ∧ P.o c.2.1 = S.o c.2.1 := by
  obtain ⟨h1, h2, h3, ⟨h4, hcd, hnm⟩, h5, ⟨i1, i3, i4, i5⟩, ⟨h6, h7, h8, h9⟩, ⟨h10, h11, h12⟩, ⟨h13, h14⟩⟩ := w
  have hin := hC.inl ht hw
  have eo := (hin.o h5 c List.mem_cons_self).1
  have n8 := hC.2.2.2.2.2.2.2.2.1.2.1
  have k11 := hC.1.1.2.2.2.1.1
  have k11' := h1.1.2.2.2.1.1
  have rt : RTE S P := by
    unfold RTE
    rw [k11, k11']
    exact ⟨by omega, by omega, by omega⟩
  exact ⟨hC.mv hin hT h1 h3 h4 hcd hnm h5 ⟨i1, i3, i4⟩ rt ⟨by omega, by omega, by omega, by omega⟩ (h14 n8) h13, ht.mv eo i3 hnm.2.2.2.1 hnm.2.2.2.2.2.1, lw.mv eo h3 (by omega), eo⟩
end
section
/-! both readers: a loop's row is pushed -/
theorem FRB.e46l {T : Nat} {s u : RS} {f : Nat → Int32} (h : FRB T s u) : FRB T (s46 s f) u := fun j hj => by
  have sa : ∀ k : Nat, k ≠ 46 → (s46 s f).a k = s.a k := fun k hk => if_neg hk
  rw [sa 64 (by decide), sa 65 (by decide), sa 66 (by decide), sa 67 (by decide), sa 68 (by decide), sa 69 (by decide), sa 70 (by decide), sa 71 (by decide), sa 72 (by decide), sa 73 (by decide)]
  exact h j hj
theorem INL.mv {S P : CS} {s q : RS} {T : Nat} {L : List CEL} (h : INL S s T L) (ck : CKZ S P) (e53 : P.i 53 = S.i 53) (e43 : q.i 43 = s.i 43) (e56 : q.i 56 = s.i 56) : INL P q T L := fun y hy => by
  obtain ⟨h1, h2, h3, h4, h5⟩ := h y hy
  rw [(h.o ck y hy).1, e53, e43, e56]
  exact ⟨h1, (ck.2.1 _ h1).trans h2, h3, h4, h5⟩
/-- as TBK, but the depth may be other -/
def TBY (s u : RS) : Prop := (u.i 2 = s.i 2 ∧ u.i 3 = s.i 3 ∧ u.i 8 = s.i 8 ∧ u.i 38 = s.i 38 ∧ u.i 43 = s.i 43 ∧ True ∧ u.i 56 = s.i 56 ∧ u.a 1 = s.a 1 ∧ u.a 4 = s.a 4 ∧ u.b 9 = s.b 9) ∧ TBR s u
def TBK9 (s u : RS) : Prop := TBY s u ∧ CDK (s.i 20).toInt s u
theorem TBY.r {s u : RS} (h : TBY s u) : TBR s u := h.2
theorem TBK.t9 {s u : RS} (h : TBK s u) : TBK9 s u := by
  obtain ⟨⟨⟨a1, a2, a3, a4, a5, a6, a7, a8, a9, a10⟩, r⟩, c⟩ := h
  exact ⟨⟨⟨a1, a2, a3, a4, a5, trivial, a7, a8, a9, a10⟩, r⟩, c⟩
set_option maxHeartbeats 4000000 in
theorem COR.gol {N : Nat} {d : Int32} {B : CS} {b : RS} {t0 T : Nat} {L : List CEL} {x p f k y z : Int} {S P R : CS} {s q q' u : RS} {c : CEL} {G : Int32 × RS} {a m : Nat} {v x3 : Int32} (hC : COR d B b t0 (c :: L) x S s) (q1 : TOP S s c) (q2 : LOW S s c) (q3 : T = ceT c + wid (S.o c.2.1 0)) (hT : t0 ≤ T) (hm : NMC c S) (hx : S.o c.2.1 0 = 303 → x = -3) (hB : BOT b S (c :: L)) (w : WAZ d T p f k y z S s P q) (hp : 0 ≤ p) (hv : v = 205 ∨ v = 206 ∨ v = 207 ∨ v = 304) (sq : PSQ P R a m v x3) (g3 : R.o a 3 = S.i 50) (x38 : R.i 38 = P.i 38) (fq' : FRB T q q') (tq' : TBK9 q q') (hG : f_X12_loopGoal N q' = some G) (ev : ENV d R u) (fu : FRB T G.2 u) (tu : TBK G.2 u) (nn : (q.i 11).toInt ≤ (u.i 11).toInt ∧ phI s + dbt v ≤ phI u ∧ (q.i 17).toInt ≤ (u.i 17).toInt ∧ (u.i 19).toInt = (s.i 19).toInt) (n21 : (R.i 21).toInt + 2 * (s.i 11).toInt ≤ (S.i 21).toInt + 2 * (u.i 11).toInt) (n54 : (R.i 54).toInt + (s.i 11).toInt ≤ (S.i 54).toInt + (u.i 11).toInt) (up : q'.i 59 = q.i 59 ∧ q'.a 60 = q.a 60 ∧ q'.a 61 = q.a 61 ∧ q'.a 62 = q.a 62) (up' : u.i 59 = G.2.i 59 ∧ u.a 60 = G.2.a 60 ∧ u.a 61 = G.2.a 61 ∧ u.a 62 = G.2.a 62) (rfr : G.1 = q'.i 43 → ∀ g w : Nat, G.1.toInt = (g : Int) → u.a 44 g = 0 → RFR R u a T g w) (plf : ∀ (c1 : CEL) (k : Int), c1.2.1 = a → ceT c1 = T → PLF R u c1 k → (s.i 20).toInt ≤ k ∧ k < (u.i 20).toInt) : ∃ c1 : CEL, COR d B b t0 (c1 :: c :: L) (-9) R u ∧ TOP R u c1 ∧ c1.2.1 = a ∧ ceT c1 = T := by
  obtain ⟨w1, w2, wf, ⟨wt, wcd, wn⟩, wz, ⟨j38, j53, j56, j36⟩, ⟨n11, nph, n17, n19⟩, ⟨-, -, n55⟩, ⟨l38, l8⟩⟩ := w
  obtain ⟨nm1, nm2, nm3, nm4, nm5, nm6, nm7, nm8, nm9⟩ := wn
  have hin := hC.inl q1 q3
  obtain ⟨zX, ⟨r53, r54, r55, r52⟩, ⟨r50, r56, r36⟩, ⟨m1', m2', rr1⟩, ⟨g0, g1', -, g14⟩, -⟩ := id sq
  have hv0 := hC.1
  -- the goal and the walk
  unfold f_X12_loopGoal at hG
  obtain ⟨o, ho, hG⟩ := hf_bind hG
  obtain ⟨o1, oa⟩ := g_goa ho
  obtain ⟨b1, b2, b3, b4, b5, b6, ⟨b7, b8, b9⟩, b10⟩ := id oa
  have z43 : q'.i 43 = s.i 43 := tq'.1.1.2.2.2.2.1.trans nm4
  have t1 := q1.2.1
  have e1m : (o.1 - 1).toInt = (s.i 43).toInt - 1 := by
    have e1 : (1 : Int32).toInt = 1 := by decide
    have b7' : 0 ≤ (s.i 43).toInt := by rw [← z43]; exact b7
    have b8' : (s.i 43).toInt < 460 := by rw [← z43]; exact b8
    rw [o1, z43, toInt_sub] <;> rw [e1] <;> omega
  have og : 0 ≤ o.1.toInt := by rw [o1]; exact b7
  have ag : ∀ i : Nat, (i : Int) ≤ (o.1 - 1).toInt → o.2.a 44 i = s.a 44 i ∧ o.2.a 46 i = s.a 46 i := fun i hi => by
    have h1 : (i : Int) < (q'.i 43).toInt := by rw [z43]; omega
    have h2 : (i : Int) < (q.i 43).toInt := by rw [nm4]; omega
    have h3 : (i : Int) < (s.i 43).toInt := by omega
    have y1 := tq'.1.2.2.1 i h2
    have y2 := wt.2.1 i h3
    exact ⟨(b4 44 i h1).trans (y1.1.trans y2.1), (b4 46 i h1).trans (y1.2.2.1.trans y2.2.2.1)⟩
  obtain ⟨G1, ge, glb, gk⟩ := y_walk og N L c _ _ _ x o.2 (o.1 - 1) G hC.2.1 hC.2.2.2.1 hx hB hC.2.2.2.2.2.1.2.1 (by omega) ag hG
  obtain ⟨ei, el, eb, ea⟩ := id ge
  -- where the statement began, with the labels' loops as they will be
  have lbs : LBC S (s46 s (G.2.a 46)) (c :: L) o.1.toInt := LBC.mv (c :: L) _ glb (fun _ _ => rfl) (fun y _ _ => by rw [s46.at])
  have b43 : (b.i 43).toInt ≤ (s.i 43).toInt := hC.2.2.2.2.2.1.2.1.2.1
  have hC' : COR d B b t0 (c :: L) o.1.toInt S (s46 s (G.2.a 46)) := hC.e46 s46.e (fun j hj => by
    rw [s46.at, gk j (Or.inl hj)]
    exact (ag j (by omega)).2) lbs
  have hin' : INL S (s46 s (G.2.a 46)) T (c :: L) := hin.mv ⟨rfl, fun _ _ => rfl, fun _ _ _ _ => ⟨rfl, rfl⟩, fun _ _ => rfl, Int.le_refl _, Int.le_refl _, fun _ _ => rfl, fun k h1 h2 => by omega⟩ rfl rfl rfl
  have i43u : u.i 43 = G.2.i 43 := tu.1.1.2.2.2.2.1
  have i43G : (u.i 43).toInt = (s.i 43).toInt + 1 := by rw [i43u, ei, b9, z43]
  have i56u : u.i 56 = s.i 56 := by rw [tu.1.1.2.2.2.2.2.2.1, ei, b1 56 (by decide), tq'.1.1.2.2.2.2.2.2.1, nm6]
  have i38q : q'.i 38 = q.i 38 := tq'.1.1.2.2.2.1
  have i38u : u.i 38 = q.i 38 := by rw [tu.1.1.2.2.2.1, ei, b1 38 (by decide), i38q]
  have fr1 : FRB T s u := by
    have fG : FRB T o.2 G.2 := fun j hj => by
      rw [ea 64 (by decide), ea 65 (by decide), ea 66 (by decide), ea 67 (by decide), ea 68 (by decide), ea 69 (by decide), ea 70 (by decide), ea 71 (by decide), ea 72 (by decide), ea 73 (by decide), eb]
      exact ⟨rfl, rfl, rfl, rfl, rfl, rfl, rfl, rfl, rfl, rfl, rfl⟩
    exact (((wf.tr fq').tr (oa.frb T)).tr fG).tr fu
  have fP : FRB T q u := by
    have fG : FRB T o.2 G.2 := fun j hj => by
      rw [ea 64 (by decide), ea 65 (by decide), ea 66 (by decide), ea 67 (by decide), ea 68 (by decide), ea 69 (by decide), ea 70 (by decide), ea 71 (by decide), ea 72 (by decide), ea 73 (by decide), eb]
      exact ⟨rfl, rfl, rfl, rfl, rfl, rfl, rfl, rfl, rfl, rfl, rfl⟩
    exact ((fq'.tr (oa.frb T)).tr fG).tr fu
  have tbx : TBR s o.2 := (wt.tr tq'.1.r l38 (by rw [nm4]; exact Int.le_refl _) (by rw [nm6]; exact Int.le_refl _)).tr oa.tbr (by rw [i38q]; exact l38) (by rw [z43]; exact Int.le_refl _) (by rw [tq'.1.1.2.2.2.2.2.2.1, nm6]; exact Int.le_refl _)
  have tb' : TBR (s46 s (G.2.a 46)) u := (tbx.e46 ge).tr tu.1.r (by show (s.i 38).toInt ≤ (G.2.i 38).toInt; rw [ei, b1 38 (by decide), i38q]; exact l38) (by show (s.i 43).toInt ≤ (G.2.i 43).toInt; rw [ei, b9, z43]; omega) (by show (s.i 56).toInt ≤ (G.2.i 56).toInt; rw [ei, b1 56 (by decide), tq'.1.1.2.2.2.2.2.2.1, nm6]; exact Int.le_refl _)
  have cd1 : CDK (s.i 20).toInt s u := by
    have g20 : G.2.i 20 = q'.i 20 := by rw [ei, b1 20 (by decide)]
    have c1 := wcd.1
    have c2 := tq'.2.1
    have c3 := tu.2.1
    rw [g20] at c3
    refine ⟨by omega, fun j hj => ?_⟩
    rw [tu.2.2 j (by rw [g20]; omega), ea 22 (by decide), b3 22 (by decide), tq'.2.2 j (by omega), wcd.2 j hj]
  have cd' : CDK ((s46 s (G.2.a 46)).i 20).toInt (s46 s (G.2.a 46)) u := ⟨cd1.1, fun j hj => (cd1.2 j hj).trans (by
    show s.a 22 j = (s46 s (G.2.a 46)).a 22 j
    rw [s46.e.2.2.2 22 (by decide)])⟩
  -- numbers, the class
  have ckall : CKZ S R := wz.tr j53 zX
  have eo := (hin.o ckall c List.mem_cons_self).1
  have low : LOW R u c := q2.mv eo fr1 (by omega)
  have z44 : S.i 44 = s.i 11 := hv0.1.2.2.2.1.1
  have z45 : R.i 44 = u.i 11 := ev.1.2.2.2.1.1
  have rte : RTE S R := by
    unfold RTE
    rw [z44, z45, r55]
    exact ⟨n21, n54, by omega⟩
  obtain ⟨sj1, sj2, sj3, sj4, sj5, sj6⟩ := id w1.sj
  have hi11 := i11_hi w1
  have hinP : INL P q T (c :: L) := hin.mv wz j53 nm4 nm6
  have eoP : ∀ y ∈ c :: L, P.o y.2.1 = S.o y.2.1 := fun y hy => (hin.o wz y hy).1
  have eP : ∀ y ∈ c :: L, R.o y.2.1 = P.o y.2.1 := fun y hy => (hinP.o zX y hy).1
  obtain ⟨b29, b30, b0, col, hc⟩ := id hC.2.2.2.2.2.2.2.2.2.2
  have jP : JMQ P q (c :: L) (b.i 59).toInt (b.i 29).toInt := hC.2.2.1.mv b29 hv0.sj.1 hin wz wf wt
  have jp := hC.jp
  obtain ⟨-, -, -, -, -, -, j7, -⟩ := id jP
  obtain ⟨k1, k2, k3, k4, k5⟩ := j7 c List.mem_cons_self
  rw [eoP c List.mem_cons_self] at k1 k2 k3 k4 k5
  have lo29 : (s.i 29).toInt ≤ (q.i 29).toInt := wt.2.2.2.2.2.1
  have t21 := hC.2.2.2.2.2.2.2.2.1.1
  have q54 := hC.2.2.2.2.2.2.2.2.1.2.2
  have n8 := hC.2.2.2.2.2.2.2.2.1.2.1
  have h8 := l8 n8
  have o1i : (R.o a 1).toInt = (P.i 54).toInt + 1 := by rw [g1', ad1 sj1 (by omega)]
  -- the new goal
  obtain ⟨g, hg⟩ : ∃ g : Nat, (s.i 43).toInt = (g : Int) := ⟨(s.i 43).toInt.toNat, by rw [z43] at b7; omega⟩
  obtain ⟨⟨x44, x45⟩, ⟨x46, x48, x49⟩, x50, x51⟩ := b10 g (by rw [z43]; exact hg)
  have gG : (g : Int) < (G.2.i 43).toInt := by rw [ei, b9, z43]; omega
  obtain ⟨y44, y45, y46, y47, y50, y51, y48, y49⟩ := tu.1.2.2.1 g gG
  rw [ea 44 (by decide), x44] at y44
  rw [ea 48 (by decide), x48] at y48
  rw [ea 49 (by decide), x49] at y49
  rw [ea 50 (by decide), x50] at y50
  rw [ea 51 (by decide), x51] at y51
  have em1 : (-1 : Int32).toInt = -1 := by decide
  have u46 : ∀ y ∈ c :: L, S.o y.2.1 0 = 303 → u.a 46 (ceG y) = G.2.a 46 (ceG y) := fun y hy h => (tu.1.2.2.1 (ceG y) (by
    have := (hin y hy).2.2.2.1 (Or.inl h)
    rw [ei, b9, z43]
    omega)).2.2.1
  -- the sort
  have isg : isGo (R.o a 0) := by
    rw [g0]
    rcases hv with h | h | h | h <;> rw [h]
    · exact Or.inr (Or.inr (Or.inl rfl))
    · exact Or.inr (Or.inr (Or.inr (Or.inl rfl)))
    · exact Or.inr (Or.inr (Or.inr (Or.inr (Or.inl rfl))))
    · exact Or.inr (Or.inr (Or.inr (Or.inr (Or.inr rfl))))
  have nt : ¬ isTy (R.o a 0) := by
    rw [g0]
    rcases hv with h | h | h | h <;> rw [h] <;> unfold isTy <;> decide
  have nw : ¬ isWl (R.o a 0) := by
    rw [g0]
    rcases hv with h | h | h | h <;> rw [h] <;> unfold isWl <;> decide
  have n18 : ¬ R.o a 0 = 218 := by
    rw [g0]
    rcases hv with h | h | h | h <;> rw [h] <;> decide
  have n303 : ¬ R.o a 0 = 303 := by
    rw [g0]
    rcases hv with h | h | h | h <;> rw [h] <;> decide
  have n216 : ¬ R.o a 0 = 216 := by
    rw [g0]
    rcases hv with h | h | h | h <;> rw [h] <;> decide
  have dp0 : nDp (R.o a 0) = 0 := by
    rw [g0]
    rcases hv with h | h | h | h <;> rw [h] <;> rfl
  have lop : R.o a 0 = 205 ∨ R.o a 0 = 206 ∨ R.o a 0 = 207 ∨ R.o a 0 = 304 := by
    rw [g0]
    exact hv
  have iar : IAR R u := by
    obtain ⟨⟨z1, z2⟩, z3⟩ := hC.2.2.2.2.2.2.2.2.2.1
    have e56 : R.i 56 = S.i 56 := r56.trans j56
    unfold IAR
    rw [e56, i43G]
    refine ⟨⟨fun z => ?_, fun z => ?_⟩, fun z => ?_⟩
    · obtain ⟨g', w1, w2⟩ := z1 z
      have y1 := tb'.2.1 g' w1
      have y2 : (s46 s (G.2.a 46)).a 44 g' = s.a 44 g' := by rw [s46.e.2.2.2 44 (by decide)]
      exact ⟨g', by omega, (y1.1.trans y2).trans w2⟩
    · obtain ⟨g', w1, w2⟩ := z
      by_cases cg : (g' : Int) < (s.i 43).toInt
      · have y1 := tb'.2.1 g' cg
        have y2 : (s46 s (G.2.a 46)).a 44 g' = s.a 44 g' := by rw [s46.e.2.2.2 44 (by decide)]
        exact z2 ⟨g', cg, (y1.1.trans y2).symm.trans w2⟩
      · have eg : g' = g := by omega
        rw [eg, y44] at w2
        exact absurd w2 (by decide)
    · obtain ⟨w1, w2, a', w3⟩ := z3 z
      exact ⟨by rw [r53, j53]; omega, w2, a', (ckall.2.1 _ (by omega)).trans w3⟩
  obtain ⟨c1, hc1⟩ : ∃ c1 : CEL, c1 = (c.1 + 1, a, T, g, ceW c + nWl (S.o c.2.1 0)) := ⟨_, rfl⟩
  have v1 : c1.1 = c.1 + 1 := by rw [hc1]
  have v2 : c1.2.1 = a := by rw [hc1]
  have v3 : ceT c1 = T := by rw [hc1]; rfl
  have v4' : ceG c1 = g := by rw [hc1]; rfl
  have v4 : ceG c1 = ceG c + nGo (S.o c.2.1 0) := by rw [v4']; omega
  have v5 : ceW c1 = ceW c + nWl (S.o c.2.1 0) := by rw [hc1]; rfl
  clear hc1
  have em2 : m = c.1 + 1 := by
    have a1 := q1.1
    rw [j53] at m1'
    omega
  have s20 : 0 ≤ (s.i 20).toInt := by
    have := hC.2.2.2.2.2.1.2.2.1.1
    omega
  have hcol : ∃ col : Nat → Option (Nat × Bool), COL R u (c1 :: c :: L) col (b.i 20).toInt := by
    refine ⟨col, ((hc.e46 (s46.e (f := G.2.a 46))).mv b0 hin' ckall fr1.e46l tb' cd').addg (fun _ => ?_) (by rw [v2]; exact n18) (fun kk z => ?_)⟩
    · rw [v4', y48, y49, em1]
      exact ⟨by omega, by omega⟩
    · obtain ⟨p1, p2⟩ := plf c1 kk v2 v3 z
      have fr := hc.fresh s20 (k := kk) p1
      have bs := hC.2.2.2.2.2.1.2.2.1.1
      refine ⟨by omega, p2, fr.1, fun y hy t => ?_⟩
      rw [(hin.o ckall y hy).1] at t
      have w1 := wid1 (S.o y.2.1 0)
      have w2 := (hin y hy).2.2.1
      rw [(fr1 (ceT y) (by omega)).2.2.1]
      exact fr.2 y hy t
  have og1 : G.1.toInt = (g : Int) := by rw [G1, o1, z43]; exact hg
  have lb : LBC R u (c :: L) o.1.toInt := LBC.mv (c :: L) _ glb (fun y hy => (hin.o ckall y hy).1) u46
  have oge : o.1.toInt = (g : Int) := by rw [o1, z43]; exact hg
  refine ⟨c1, hC'.push hin' hT ev fr1.e46l tb' cd' ⟨?_, ?_, ?_, ?_, ?_, ?_⟩ (by show (s.i 43).toInt ≤ (u.i 43).toInt; omega) (by show (s.i 56).toInt ≤ (u.i 56).toInt; rw [i56u]; exact Int.le_refl _) ckall jP hinP eP fP (fun y hy hgo bb => ?_) ⟨by have := jp.1.1; omega, fun y hy ty => ?_, w1.wp.2⟩ ⟨sj1, sj3⟩ r54 r55 r52 (by rw [v2, dp0, x38, j38]; omega) (by rw [r53, j53]; omega) rte ⟨?_, ?_, ?_, ?_⟩ (by omega) (by omega) (by rw [i38u]; omega) (by show (s.i 38).toInt ≤ (u.i 38).toInt; rw [i38u]; exact l38) (by rw [up'.1, ei, b1 59 (by decide), up.1]) (by rw [up'.2.1, ea 60 (by decide), b3 60 (by decide), up.2.1]) (by rw [up'.2.2.1, ea 61 (by decide), b3 61 (by decide), up.2.2.1]) (by rw [up'.2.2.2, ea 62 (by decide), b3 62 (by decide), up.2.2.2]) (CST.pl (by rw [v1, v2, ← em2]; exact rr1) (by rw [v1]; omega) (by rw [v2, v3, v4']; exact rfr (by rw [G1, o1]) g _ og1 y44) (by rw [v2]; exact n18) (by rw [v2]; exact nt)) ⟨v1, by rw [v3, eo]; exact q3, by rw [v4, eo], by rw [v5, eo], by rw [v2, eo, o1i]; omega, by rw [v2, eo, g14]; exact k4, fun w => by rw [v2, eo, g14]; rw [eo] at w; exact (k5 w).2, fun w1 w2 w3 => by rw [v2, eo, g3]; rw [eo] at w1 w2 w3; exact hm w1 w2 w3, by rw [v2, g0]; rcases hv with z9 | z9 | z9 | z9 <;> rw [z9] <;> (unfold isKS isOne isTy; decide)⟩ low ?_ iar hcol (by rw [v2]; exact o1i) (by rw [v2]; exact g14) (by rw [v2]; exact n216) (fun _ bb => ?_) (fun w => absurd w (by rw [v2]; exact nt)) (r56.trans j56) (by rw [v2]; exact g3), ⟨?_, ?_, ?_⟩, v2, v3⟩
  · show u.i 2 = s.i 2
    rw [tu.1.1.1, ei, b1 2 (by decide), tq'.1.1.1, nm1]
  · show u.i 3 = s.i 3
    rw [tu.1.1.2.1, ei, b1 3 (by decide), tq'.1.1.2.1, nm2]
  · show u.i 8 = s.i 8
    rw [tu.1.1.2.2.1, ei, b1 8 (by decide), tq'.1.1.2.2.1, nm3]
  · rw [s46.e.2.2.2 1 (by decide), tu.1.1.2.2.2.2.2.2.2.1, ea 1 (by decide), b3 1 (by decide), tq'.1.1.2.2.2.2.2.2.2.1, nm7]
  · rw [s46.e.2.2.2 4 (by decide), tu.1.1.2.2.2.2.2.2.2.2.1, ea 4 (by decide), b3 4 (by decide), tq'.1.1.2.2.2.2.2.2.2.2.1, nm8]
  · show u.b 9 = s.b 9
    rw [tu.1.1.2.2.2.2.2.2.2.2.2, eb, b5 9 (by decide), tq'.1.1.2.2.2.2.2.2.2.2.2, nm9]
  · have lt := (hinP y hy).2.2.2.1 hgo
    have lt' : (ceG y : Int) < (q'.i 43).toInt := by rw [z43, ← nm4]; exact lt
    have ltG : (ceG y : Int) < (G.2.i 43).toInt := by rw [ei, b9]; omega
    have w := tu.1.2.2.1 (ceG y) ltG
    have w' := tq'.1.2.2.1 (ceG y) lt
    unfold flg
    rw [w.2.2.2.2.1, w.2.2.2.2.2.1, ea 50 (by decide), ea 51 (by decide), b4 50 _ lt', b4 51 _ lt', w'.2.2.2.2.1, w'.2.2.2.2.2.1]
  · rw [eoP y hy] at ty
    have w1 := wid1 (S.o y.2.1 0)
    have w2 := (hin y hy).2.2.1
    rw [(wf (ceT y) (by omega)).2.2.1]
    have := jp.1.2.1 y hy ty
    omega
  · show (s.i 11).toInt ≤ (u.i 11).toInt
    omega
  · show phI s + dbt (R.o c1.2.1 0) ≤ phI u
    rw [v2, g0]
    exact nn.2.1
  · show (s.i 17).toInt ≤ (u.i 17).toInt
    omega
  · show (u.i 19).toInt = (s.i 19).toInt + (nSg (R.o c1.2.1 0) : Int)
    have n9 : nSg v = 0 := by rcases hv with z9 | z9 | z9 | z9 <;> rw [z9] <;> rfl
    rw [v2, g0, n9]
    have := nn.2.2.2
    omega
  · unfold LBC
    rw [v2, if_neg n303, if_pos lop, v4', ← oge]
    exact lb
  · unfold flg
    rw [v4', y50, y51]
    by_cases z : bb = 0
    · exact if_pos z
    · exact if_neg z
  · rw [r53, j53, v1]
    have := q1.1
    omega
  · rw [v2, v4', nGo1 isg, i43G, hg]
    omega
  · rw [v2, v5, nWl.eq nw, i56u, q1.2.2]
    omega
end
section
/-! both readers: a loop's row, from its head's end -/
theorem e_walk {N : Nat} {g : Int32} : ∀ (n : Nat) (s : RS) (j : Int32) (V : Int32 × RS), f_X12_loopGoal_11 N n s g j = some V → V.1 = g ∧ E46 s V.2
  | 0, _, _, _, e => by cases e
  | n + 1, s, j, V, e => by
    have e' : b_X12_loopGoal_11 N (f_X12_loopGoal_11 N n) s g j = some V := e
    unfold b_X12_loopGoal_11 f_X12_loopGoal_49 at e'
    by_cases c0 : j < 0
    · rw [if_pos c0] at e'
      cases e'
      exact ⟨rfl, E46.rf s⟩
    rw [if_neg c0] at e'
    obtain ⟨-, e'⟩ := hf_ite e'
    by_cases d1 : s.a 44 (j.toNatClampNeg) = 2
    · rw [if_pos d1] at e'
      by_cases d2 : s.a 46 (j.toNatClampNeg) = -3
      · rw [if_pos d2] at e'
        obtain ⟨r1, r2⟩ := e_walk n _ _ V e'
        exact ⟨r1, E46.tr (show E46 s (RS.setA s 46 (j.toNatClampNeg) g) from ⟨rfl, rfl, rfl, fun q hq => setA_nk hq⟩) r2⟩
      · rw [if_neg d2] at e'
        cases e'
        exact ⟨rfl, E46.rf s⟩
    · rw [if_neg d1] at e'
      cases e'
      exact ⟨rfl, E46.rf s⟩
theorem lg_in {N : Nat} {q : RS} {G : Int32 × RS} (h : f_X12_loopGoal N q = some G) : G.1 = q.i 43 ∧ (∀ k : Nat, k ≠ 43 → G.2.i k = q.i k) ∧ (∀ k : Nat, k < 44 ∨ 51 < k → G.2.a k = q.a k) ∧ (∀ (d : Int32) (S : CS), ENV d S q → ENV d S G.2) ∧ (∀ k j : Nat, k ≠ 46 → (j : Int) < (q.i 43).toInt → G.2.a k j = q.a k j) ∧ (G.2.i 43).toInt = (q.i 43).toInt + 1 ∧ ∀ g : Nat, (q.i 43).toInt = (g : Int) → G.2.a 48 g = -1 ∧ G.2.a 49 g = -1 ∧ G.2.a 47 g = q.i 52 := by
  unfold f_X12_loopGoal at h
  obtain ⟨o, ho, h⟩ := hf_bind h
  obtain ⟨o1, oa⟩ := g_goa ho
  obtain ⟨g1, ge⟩ := e_walk N o.2 _ G h
  obtain ⟨b1, b2, b3, b4, -, -, ⟨-, -, b5⟩, b6⟩ := id oa
  exact ⟨g1.trans o1, fun k hk => by rw [ge.1]; exact b1 k hk, fun k hk => (ge.2.2.2 k (by omega)).trans (b3 k (hk.elim Or.inl (fun h => Or.inr (Or.inr h)))), fun d S ev => (oa.env ev).e46 ge, fun k j hk hj => by rw [ge.2.2.2 k hk]; exact b4 k j hj, by rw [ge.1]; exact b5, fun g hg => by
    obtain ⟨-, ⟨-, c1, c2⟩, -⟩ := b6 g hg
    exact ⟨by rw [ge.2.2.2 48 (by decide)]; exact c1, by rw [ge.2.2.2 49 (by decide)]; exact c2, by rw [ge.2.2.2 47 (by decide)]; exact goa47 ho hg⟩⟩
theorem pl_in {N : Nat} {S : CS} {v x2 x3 : Int32} {r : Option Nat × CS} (h : f_X7_pushLoop N S v x2 x3 = some r) : ∃ (p : Option Nat × CS) (a : Nat), f_X6_push N S v (S.i 38) (S.i 50) = some p ∧ p.1 = some a ∧ r = (some a, CS.setO (CS.setO p.2 a 10 x2) a 9 x3) := by
  unfold f_X7_pushLoop at h
  obtain ⟨p, ep, h⟩ := hf_bind h
  rcases hf_oc h with ⟨-, z⟩ | ⟨a, ea, h⟩
  · cases z
  · obtain ⟨-, h⟩ := hf_ite h
    cases h
    exact ⟨p, a, ep, ea, rfl⟩
/-- just true: the class's answer and the reference's -/
theorem jt_eq {N : Nat} {r u : RS} {since v : Int32} {P : Int32 × RS} (h : f_X12_isJustTrue N u since = some P) (hs : (r.i 10 = 432 ∧ since = r.i 17) ∨ (¬ r.i 10 = 432 ∧ since = 0)) (h17 : 0 < (r.i 17).toInt ∧ (r.i 17).toInt < 2000) (hv : v = 0 ∨ v = 1) (hi : v = 1 ↔ (r.i 10 = 432 ∧ (u.i 17).toInt = (r.i 17).toInt + 1)) : P = (v, u) := by
  unfold f_X12_isJustTrue f_X12_isJustTrue_18 at h
  rcases hs with ⟨h1, h2⟩ | ⟨h1, h2⟩
  · rw [h2] at h
    rw [if_neg (show ¬ r.i 17 ≤ 0 by rw [Int32.le_iff_toInt_le, z_t0]; omega)] at h
    have e1 : (r.i 17 + 1).toInt = (r.i 17).toInt + 1 := ad1 (by omega) (by omega)
    by_cases c : u.i 17 = r.i 17 + 1
    · rw [if_pos c] at h
      cases h
      have : v = 1 := hi.mpr ⟨h1, by rw [c, e1]⟩
      rw [this]
    · rw [if_neg c] at h
      cases h
      have : v = 0 := hv.resolve_right (fun z => c (Int32.toInt_inj.mp (by rw [(hi.mp z).2, e1])))
      rw [this]
  · rw [h2] at h
    rw [if_pos (Int32.le_refl _)] at h
    cases h
    have : v = 0 := hv.resolve_right (fun z => h1 (hi.mp z).1)
    rw [this]
set_option maxHeartbeats 4000000 in
theorem lp_tail {N : Nat} {d : Int32} {B : CS} {b : RS} {t0 T n : Nat} {L : List CEL} {x p f k y z : Int} {S P R : CS} {s q q' V U : RS} {c : CEL} {G : Int32 × RS} {a m jf : Nat} {v x3 st : Int32} (hC : COR d B b t0 (c :: L) x S s) (q1 : TOP S s c) (q2 : LOW S s c) (q3 : T = ceT c + wid (S.o c.2.1 0)) (hT : t0 ≤ T) (hm : NMC c S) (hx : S.o c.2.1 0 = 303 → x = -3) (hB : BOT b S (c :: L)) (w : WAZ d T p f k y z S s P q) (hp : 0 ≤ p) (hv : v = 205 ∨ v = 206 ∨ v = 207 ∨ v = 304) (sq : PSQ P R a m v x3) (g3 : R.o a 3 = S.i 50) (x38 : R.i 38 = P.i 38) (o5 : R.o a 5 = 0) (nmc : v = 205 ∨ v = 206 → R.i 50 = R.o a 3) (fq' : FRB T q q') (tq' : TBK9 q q') (tp' : tpI q' = (T : Int)) (evR : ENV d R q') (hG : f_X12_loopGoal N q' = some G) (hj : jf = 68 ∨ jf = 73) (hV : f_X12_body N (RS.setA G.2 jf T G.1) st = some V) (g : f_X12_parse_10 N n V = some U) (nn : (q.i 11).toInt ≤ (q'.i 11).toInt ∧ phI s + dbt v ≤ phI q' ∧ (q.i 17).toInt ≤ (q'.i 17).toInt ∧ (q'.i 19).toInt = (s.i 19).toInt) (n21 : (R.i 21).toInt + 2 * (s.i 11).toInt ≤ (S.i 21).toInt + 2 * (q'.i 11).toInt) (n54 : (R.i 54).toInt + (s.i 11).toInt ≤ (S.i 54).toInt + (q'.i 11).toInt) (up : q'.i 59 = q.i 59 ∧ q'.a 60 = q.a 60 ∧ q'.a 61 = q.a 61 ∧ q'.a 62 = q.a 62) (rfr : ∀ (u : RS) (g w : Nat), (∀ j : Nat, 64 ≤ j → j ≤ 73 → j ≠ 65 → j ≠ jf → u.a j T = q'.a j T) → u.a 65 T = st → (u.a jf T).toInt = (g : Int) → u.a 44 g = 0 → RFR R u a T g w) (plf : ∀ (u : RS) (c1 : CEL) (k : Int), c1.2.1 = a → ceT c1 = T → (∀ j : Nat, 64 ≤ j → j ≤ 73 → j ≠ 65 → j ≠ jf → u.a j T = q'.a j T) → PLF R u c1 k → (s.i 20).toInt ≤ k ∧ k < (q'.i 20).toInt) {J : List RVW → CS → RS → Prop} (hJ : ∀ (u : RS) (c1 : CEL), c1.2.1 = a → ceT c1 = T → qe u = qe q' → (u.i 38 = q'.i 38 ∧ u.a 40 = q'.a 40 ∧ u.i 11 = q'.i 11 ∧ u.i 19 = q'.i 19) → (∀ j : Nat, 64 ≤ j → j ≤ 73 → j ≠ 65 → j ≠ jf → u.a j T = q'.a j T) → ((∀ k t : Nat, 66 ≤ k → k ≤ 73 → t < T → u.a k t = q'.a k t) ∧ ∀ j : Nat, (j : Int) < (s.i 38).toInt → u.a 40 j = s.a 40 j) → R.i 36 = 1 → LPF s u (ceG c1) → (∀ y ∈ vws R u (c :: L), y.2.2.1 < c1.1) → J (vws R u (c1 :: c :: L)) R u) : DMD d B R U ∨ ∃ (m : Nat) (u : RS), f_X12_parse_10 N m u = some U ∧ NEW d B b t0 c L R u J := by
  obtain ⟨zX, ⟨r53, r54, r55, r52⟩, ⟨r50, r56, r36⟩, ⟨m1', m2', rr1⟩, ⟨g0, g1', -, g14⟩, -⟩ := id sq
  have R36 : R.i 36 = 1 := r36.trans w.2.2.2.2.2.1.2.2.2
  obtain ⟨G1, Gi, Ga, Ge, Gk, G43, Gn⟩ := lg_in hG
  have evG := Ge d R evR
  have jb : 66 ≤ jf ∧ jf ≤ 73 := by omega
  have evv : ENV d R (RS.setA G.2 jf T G.1) := setA_env (Or.inr ⟨by omega, jb.2⟩) evG
  have one : isOne (R.o a 0) := by
    rw [g0]
    rcases hv with h | h | h | h <;> rw [h]
    · exact Or.inr (Or.inr (Or.inr (Or.inl rfl)))
    · exact Or.inr (Or.inr (Or.inr (Or.inr (Or.inl rfl))))
    · exact Or.inr (Or.inr (Or.inr (Or.inr (Or.inr (Or.inl rfl)))))
    · exact Or.inr (Or.inr (Or.inr (Or.inr (Or.inr (Or.inr rfl)))))
  rcases r_body evv.1.2.1 hV g with ⟨z1, z2⟩ | ⟨hth, n410, n411, -⟩
  · exact Or.inl ⟨z1, ⟨_, evv, z2⟩, R36, a, m, by omega, ⟨m2', by have z9 := hC.2.2.2.2.1.2.2.1; have z8 := w.2.2.2.2.2.1.2.1; rw [z8] at m1'; omega⟩, rr1, one, o5⟩
  have tpv : tpI (RS.setA G.2 jf T G.1) = (T : Int) := by
    show (G.2.i 63).toInt = (T : Int)
    rw [Gi 63 (by decide)]
    exact tp'
  obtain ⟨hV', t99⟩ := r_then tpv hth
  rw [hV'] at g
  obtain ⟨u, hu⟩ : ∃ y, y = TH (RS.setA G.2 jf T G.1) T st 2 := ⟨_, rfl⟩
  have evu : ENV d R u := by rw [hu]; exact evv.th
  have fu : FRB T G.2 u := by rw [hu]; exact (setA_frb (Or.inr ⟨by omega, jb.2, Nat.le_refl _⟩)).tr TH.frb
  have ku : TBK G.2 u := by rw [hu]; exact (setA_tbk ⟨by omega, jb.2⟩).tr TH.tbk
  have iu : ∀ k : Nat, k ≠ 63 → u.i k = G.2.i k := by
    rw [hu]
    exact fun k h => if_neg h
  have uq : ∀ j : Nat, 64 ≤ j → j ≤ 73 → j ≠ 65 → u.a j T = (RS.setA G.2 jf T G.1).a j T := fun j h1 h2 h3 => by
    have hj' : j = 64 ∨ j = 66 ∨ j = 67 ∨ j = 68 ∨ j = 69 ∨ j = 70 ∨ j = 71 ∨ j = 72 ∨ j = 73 := by omega
    rw [hu]
    rcases hj' with h | h | h | h | h | h | h | h | h <;> rw [h]
    · exact TH.fk0 (Nat.le_refl T)
    · rfl
    · rfl
    · rfl
    · rfl
    · rfl
    · rfl
    · rfl
    · rfl
  have uj : ∀ j : Nat, 64 ≤ j → j ≤ 73 → j ≠ 65 → j ≠ jf → u.a j T = q'.a j T := fun j h1 h2 h3 h4 => by
    rw [uq j h1 h2 h3, setA_nk h4, Ga j (by omega)]
  have ujf : u.a jf T = G.1 := by
    rw [uq jf (by omega) jb.2 (by omega)]
    exact setA_at
  have u65 : u.a 65 T = st := by rw [hu]; exact TH.st
  have u641 : u.a 64 (T + 1) = 2 := by rw [hu]; exact TH.fk
  have u651 : u.a 65 (T + 1) = 0 := by rw [hu]; exact TH.fs
  have tu : tpI u = ((T + 1 : Nat) : Int) := by rw [hu]; exact TH.tp tpv (by omega)
  have qu : qe u = qe G.2 := by
    rw [hu]
    rcases hj with h | h <;> rw [h] <;> rfl
  have u40 : u.a 40 = G.2.a 40 := by
    rw [hu]
    rcases hj with h | h <;> rw [h] <;> rfl
  have pa : u.i 59 = G.2.i 59 ∧ u.a 60 = G.2.a 60 ∧ u.a 61 = G.2.a 61 ∧ u.a 62 = G.2.a 62 := by
    rw [hu]
    rcases hj with h | h <;> rw [h] <;> exact ⟨rfl, rfl, rfl, rfl⟩
  rw [← hu] at g
  clear hu hV'
  have u11 : u.i 11 = q'.i 11 := (iu 11 (by decide)).trans (Gi 11 (by decide))
  have u17 : u.i 17 = q'.i 17 := (iu 17 (by decide)).trans (Gi 17 (by decide))
  have u20 : u.i 20 = q'.i 20 := (iu 20 (by decide)).trans (Gi 20 (by decide))
  have uph : phI u = phI q' := by
    unfold phI
    rw [u17, u20]
  obtain ⟨c1, hc, ht, v2, v3⟩ := hC.gol q1 q2 q3 hT hm hx hB w hp hv sq g3 x38 fq' tq' hG evu fu ku ⟨by rw [u11]; exact nn.1, by rw [uph]; exact nn.2.1, by rw [u17]; exact nn.2.2.1, by rw [iu 19 (by decide), Gi 19 (by decide)]; exact nn.2.2.2⟩ (by rw [u11]; exact n21) (by rw [u11]; exact n54) up pa (fun _ g w hg h44 => rfr u g w uj u65 (by rw [ujf]; exact hg) h44) (fun c1 k h1 h2 h3 => by rw [u20]; exact plf u c1 k h1 h2 uj h3)
  have cd9 : cod c1 R u = -9 := by
    unfold cod
    rw [if_neg]
    intro z
    have z1 := z.1
    rw [v2, g0] at z1
    rcases hv with h | h | h | h <;> rw [h] at z1 <;> exact absurd z1 (by decide)
  have lpf : LPF s u (ceG c1) := by
    have e1 : q'.i 43 = q.i 43 := tq'.1.1.2.2.2.2.1
    have e2 : q.i 43 = s.i 43 := w.2.2.2.1.2.2.2.2.2.1
    have k1 : GKP s q := GKP.tbr w.2.2.2.1.1 (by rw [e2]; exact Int.le_refl _)
    have k2 : GKP q q' := GKP.tbr tq'.1.2 (by rw [e1]; exact Int.le_refl _)
    have k3 : GKP q' G.2 := ⟨by omega, fun j hj => ⟨Gk 50 j (by decide) hj, Gk 51 j (by decide) hj, Gk 48 j (by decide) hj, Gk 49 j (by decide) hj, Gk 47 j (by decide) hj⟩, by rw [Gi 59 (by decide)]; exact Int.le_refl _, fun j _ => ⟨by rw [Ga 60 (by omega)], by rw [Ga 61 (by omega)], by rw [Ga 62 (by omega)]⟩⟩
    have k4 : GKP G.2 u := GKP.tbk ku
    have u43 : u.i 43 = G.2.i 43 := iu 43 (by decide)
    have o1 : nGo (R.o c1.2.1 0) = 1 := by
      rw [v2, g0]
      rcases hv with h | h | h | h <;> rw [h] <;> decide
    have t43 := ht.2.1
    rw [o1, u43, G43, e1, e2] at t43
    obtain ⟨n1, n2, n3⟩ := Gn (ceG c1) (by rw [e1, e2]; omega)
    have lt : ((ceG c1 : Nat) : Int) < (G.2.i 43).toInt := by rw [G43, e1, e2]; omega
    obtain ⟨-, -, m1, m2, m3⟩ := k4.2.1 (ceG c1) lt
    exact ⟨((k1.tr k2).tr k3).tr k4, by omega, by rw [u43]; exact lt, by rw [m1, n1]; decide, by rw [m2, n2]; decide, by rw [m3, n3, iu 52 (by decide), Gi 52 (by decide)]⟩
  refine Or.inr ⟨n, u, g, c1, by rw [cd9]; exact hc, ht, ⟨Or.inr (Or.inl ⟨by rw [v2]; exact one, by rw [v2]; exact o5, by rw [v3]; exact tu, by rw [v3]; exact u641, by rw [v3]; exact u651, R36, (by rw [iu 10 (by decide)]; exact ⟨n410, n411⟩), fun z1 z2 z3 => ?_⟩), Or.inr R36⟩, hJ u c1 v2 v3 (qu.trans (kre_f_X12_loopGoal N q' G hG)) ⟨(iu 38 (by decide)).trans (Gi 38 (by decide)), u40.trans (Ga 40 (by omega)), u11, (iu 19 (by decide)).trans (Gi 19 (by decide))⟩ uj ⟨fun k t h1 h2 h3 => (fu.fld k t h1 h2 h3).trans (by rw [Ga k (by omega)]), fun j hj => by
    rw [u40, Ga 40 (by omega), (tq'.1.2.1 j (by
      have z1 := hc.o3 c1 List.mem_cons_self
      rw [v2, g3, hC.1.2.1.1, iu 38 (by decide), Gi 38 (by decide), tq'.1.1.2.2.2.1] at z1
      omega)).2.1]
    exact (w.2.2.2.1.1.1 j hj).2.1⟩ R36 lpf (vws.pl hc)⟩
  rw [v2] at z2 z3 ⊢
  rw [g0] at z2 z3
  refine nmc ?_
  rcases hv with h | h | h | h
  · exact Or.inl h
  · exact Or.inr h
  · exact absurd h z2
  · exact absurd h z3
end
section
/-! both readers: while -/
set_option maxHeartbeats 4000000 in
theorem st_while {N : Nat} (hN : 1000 ≤ N) {E1 : CS → Option (Unit × CS)} {E2 : CS → Option (Int32 × CS)} (hm1 : ∀ σ, Kf (CS.i σ 32) (E1 σ)) (hm2 : ∀ σ, Kf (CS.i σ 32) (E2 σ)) (hE2 : SXN N 22 E2) {d : Int32} {B : CS} {b : RS} {t0 T n : Nat} {L : List CEL} {x : Int} {S : CS} {s U : RS} {c : CEL} {p R : Unit × CS} {A : JBA} (hC : COR d B b t0 (c :: L) x S s) (hS : STO c T S s) (hT : t0 ≤ T) (hm : NMC c S) (hx : S.o c.2.1 0 = 303 → x = -3) (hB : BOT b S (c :: L)) (h43 : S.i 43 = 205) (e1 : f_X0_add N (CS.setI (CS.setI S 36 1) 24 ((S.i 24) + 1)) 51 0 = some p) (e : f_X7_beginWhile N E1 E2 p.2 = some R) (g : f_X12_parse_10 N n s = some U) : (¬ R.2.i 32 = 0 ∧ ¬ U.i 15 = 0) ∨ DMD d B R.2 U ∨ ∃ (m : Nat) (u : RS), f_X12_parse_10 N m u = some U ∧ NEW d B b t0 c L R.2 u (JTR A U B b (c :: L) S s) := by
  obtain ⟨q1, q2, q3, q4, q5, q6⟩ := id hS
  have hv := hC.1
  have k10 := (tk_is hv (a := 205) (b := 415) (Or.inr ⟨by decide, by decide⟩) (by decide)).mp h43
  obtain ⟨m1, s1, g1, w0, a64, a65, i43, i10, ph3, i21, i11, jst⟩ := st_gj hC hS k10 (Or.inr (Or.inl ⟨rfl, rfl⟩)) (by decide) e1 g
  have t21 := hC.2.2.2.2.2.2.2.2.1.1
  -- the class, taken apart
  unfold f_X7_beginWhile f_X7_conditionInside at e
  obtain ⟨x1, ex1, e⟩ := hf_bind e
  obtain ⟨x5, ex5, e⟩ := hf_bind e
  obtain ⟨x9, ex9, e⟩ := hf_bind e
  obtain ⟨x13, ex13, e⟩ := hf_bind e
  obtain ⟨x17, ex17, e⟩ := hf_bind e
  obtain ⟨y1, ey1, ex17⟩ := hf_bind ex17
  obtain ⟨y5, ey5, ex17⟩ := hf_bind ex17
  obtain ⟨y9, ey9, ex17⟩ := hf_bind ex17
  obtain ⟨hb01, ex17⟩ := hf_ite ex17
  cases ex17
  obtain ⟨x21, ex21, e⟩ := hf_bind e
  obtain ⟨x25, ex25, e⟩ := hf_bind e
  obtain ⟨x29, ex29, e⟩ := hf_bind e
  obtain ⟨pp, a, epp, ra, hx29⟩ := pl_in ex29
  rw [hx29] at e
  have e' : (if y5.1 = 0 ∨ y5.1 = 1 then if oK (CS.setO (CS.setO pp.2 a 10 x1.1) a 9 x5.1) a 0 then some ((), CS.setO (CS.setO (CS.setO pp.2 a 10 x1.1) a 9 x5.1) a 7 y5.1) else none else none) = some R := e
  obtain ⟨b01, e'⟩ := hf_ite e'
  obtain ⟨-, e'⟩ := hf_ite e'
  cases e'
  have f9 : ¬ y9.2.i 32 = 0 → ¬ pp.2.i 32 = 0 := fun z => by
    have z1 : ¬ x21.2.i 32 = 0 := by rw [fst_add ex21]; exact z
    have z2 : ¬ x25.2.i 32 = 0 := by rw [fst_add ex25]; exact z1
    rw [kF_X6_push N x25.2 205 _ _ pp epp z2]
    exact z2
  have f5 : ¬ y5.2.i 32 = 0 → ¬ pp.2.i 32 = 0 := fun z => f9 (by rw [kF_X1_close N y5.2 41 y9 ey9 z]; exact z)
  have f1 : ¬ y1.2.i 32 = 0 → ¬ pp.2.i 32 = 0 := fun z => f5 (by rw [kF_X1_condition N E1 E2 hm1 hm2 y1.2 y5 ey5 z]; exact z)
  show (¬ pp.2.i 32 = 0 ∧ ¬ U.i 15 = 0) ∨ DMD d B (CS.setO (CS.setO (CS.setO pp.2 a 10 x1.1) a 9 x5.1) a 7 y5.1) U ∨ ∃ (m : Nat) (u : RS), f_X12_parse_10 N m u = some U ∧ NEW d B b t0 c L (CS.setO (CS.setO (CS.setO pp.2 a 10 x1.1) a 9 x5.1) a 7 y5.1) u (JTR A U B b (c :: L) S s)
  -- the reference, to its condition
  have w1 := w0.nt (by rw [i21, i11]; omega) ex1
  have w1' := w1.nt (by have := w1.2.2.2.2.2.2.2.1; rw [i11] at this ⊢; omega) ex5
  obtain ⟨m2, V, hV, g2⟩ := rl_10 g1 w0.2.1 w0.1.1.2.1 a64
  unfold f_X12_whiles f_X12_whiles_77 at hV
  obtain ⟨hib, hV⟩ := hf_ite hV
  rw [tp_nat w0.2.1, if_pos a65] at hV
  obtain ⟨q, hq, hV⟩ := hf_bind hV
  obtain ⟨r, hr, hV⟩ := hf_bind hV
  have nz : ¬ x5.2.i 43 = 0 := by rw [(nt_i ex5).2.1, (nt_i ex1).2.1, i43, h43]; decide
  obtain ⟨w2, f2⟩ := w1'.nx hN nz ex9 hq
  have w2' := (w2.ai ex13).sa (j := 66) (v := q.i 20) ⟨by omega, by omega⟩
  have hth : ∃ v69 : Int32, ((r.2.i 10 = 432 ∧ v69 = r.2.i 17) ∨ (¬ r.2.i 10 = 432 ∧ v69 = 0)) ∧ f_X12_then N (RS.setA r.2 69 T v69) 1 20 = some V := by
    by_cases c4 : r.2.i 10 = 432
    · rw [if_pos c4, ob_id] at hV
      exact ⟨_, Or.inl ⟨c4, rfl⟩, hV⟩
    · rw [if_neg c4, ob_id] at hV
      exact ⟨_, Or.inr ⟨c4, rfl⟩, hV⟩
  obtain ⟨v69, h69, hth⟩ := hth
  rcases w2'.op hN (c := 40) (e := 40) (Or.inl ⟨by decide, by decide⟩) (by decide) (by decide) (by decide) ey1 hr with ⟨o1, o2, o3⟩ | ⟨o1, w3, f3⟩
  · exact Or.inl ⟨f1 o2, u_flt g2 (krf_f_X12_then N _ 1 20 V hth (show ¬ (RS.setA r.2 69 T v69).i 15 = 0 from o3))⟩
  have cop := op_cd hN w2'.1 (c := 40) (d := 40) (Or.inl ⟨by decide, by decide⟩) (by decide) (by decide) (by decide) ey1 hr o1
  have cad := adv_cd hN w1'.1 nz ex9 hq
  have cad2 := adw_cd hN w1'.1 (by rw [(nt_i ex5).2.1, (nt_i ex1).2.1, i43, h43]; decide) ex9 hq
  have r66 : r.2.a 66 T = q.i 20 := ((f3 (T + 1) T (by omega)).2.2.1).trans setA_at
  have w3' := w3.sa (j := 69) (v := v69) ⟨by omega, by omega⟩
  have p3 : 3 ≤ phI (RS.setA r.2 69 T v69) := by
    have := w3'.2.2.2.2.2.2.1.2.1
    omega
  rcases y_cond hN hm1 hm2 hE2 w3'.1 w3'.2.1 p3 ey5 hth g2 with ⟨z1, z2⟩ | ⟨m3, u, g3, xo, hn01, hn1, xc⟩
  · exact Or.inl ⟨f5 z1, z2⟩
  have w4 := w3'.exo xo
  obtain ⟨r0, r1, r66', -, -, r69, -⟩ := xo.2.2.1
  have u64 : u.a 64 T = 10 := by
    rw [r0]
    show r.2.a 64 T = 10
    rw [(f3 (T + 1) T (by omega)).1]
    show q.a 64 T = 10
    rw [(f2 (T + 1) T (by omega)).1]
    exact a64
  have u69 : u.a 69 T = v69 := by
    rw [r69]
    exact setA_at
  have r17 : 0 < (r.2.i 17).toInt ∧ (r.2.i 17).toInt < 2000 := by
    have y1 : 3 ≤ phI r.2 := p3
    have y2 := w3.1.2.2.2.2.2.2.1
    have y3 := w3.1.2.2.2.2.2.2.2.2.1
    have y4 := i11_hi w3.1
    unfold phI at y1
    omega
  -- behind the condition
  obtain ⟨m4, V4, hV4, g4⟩ := rl_10 g3 w4.2.1 w4.1.1.2.1 u64
  unfold f_X12_whiles at hV4
  obtain ⟨-, hV4⟩ := hf_ite hV4
  rw [tp_nat w4.2.1, if_neg (show ¬ u.a 65 T = 0 by rw [r1]; decide), if_pos r1, u69] at hV4
  obtain ⟨jt, hjt, hV4⟩ := hf_bind hV4
  have ejt := jt_eq hjt h69 r17 hn01 hn1
  rw [ejt] at hV4
  have hV5 : f_X12_whiles_111 N (RS.setA u 71 T y5.1) (u.i 63) = some V4 := by
    rcases hn01 with h | h
    · rw [if_pos h] at hV4
      rw [h]
      exact hV4
    · rw [if_neg (show ¬ (y5.1, u).1 = 0 by show ¬ y5.1 = 0; rw [h]; decide)] at hV4
      rw [h]
      exact hV4
  unfold f_X12_whiles_111 at hV5
  obtain ⟨sh, hsh, hV5⟩ := hf_bind hV5
  obtain ⟨em, hem, hV5⟩ := hf_bind hV5
  obtain ⟨-, hV5⟩ := hf_ite hV5
  rw [tp_nat w4.2.1] at hV5
  obtain ⟨em2, hem2, hV5⟩ := hf_bind hV5
  obtain ⟨G, hG, hV5⟩ := hf_bind hV5
  rw [ob_id] at hV5
  have w4' := w4.sa (j := 71) (v := y5.1) ⟨by omega, by omega⟩
  rcases w4'.cl hN hv (by omega) (c := 41) (e := 41) (Or.inl ⟨by decide, by decide⟩) (by decide) (by decide) (by decide) ey9 hsh with ⟨o1, o2, o3⟩ | ⟨o1, w5, f5'⟩
  · refine Or.inl ⟨f9 o2, u_flt g4 (krf_f_X12_body N _ 2 V4 hV5 ?_)⟩
    show ¬ G.2.i 15 = 0
    have z1 : ¬ em.2.i 15 = 0 := krf_f_X12_emit N sh.2 13 0 em hem o3
    have z2 : ¬ em2.2.i 15 = 0 := krf_f_X12_emit N _ 1 0 em2 hem2 z1
    exact krf_f_X12_loopGoal N em2.2 G hG z2
  have ccl := cl_cd hN w4'.1 (by have := w4'.sg hv; omega) (c := 41) (d := 41) (Or.inl ⟨by decide, by decide⟩) (by decide) (by decide) (by decide) ey9 hsh o1
  have p5 : 1 ≤ phI sh.2 := by
    have := w5.2.2.2.2.2.2.1.2.1
    omega
  obtain ⟨w6, f6, e20, n20, -⟩ := w5.em p5 hem
  have w6' := w6.sa (j := 67) (v := em.1) ⟨by omega, by omega⟩
  have p6 : 1 ≤ phI (RS.setA em.2 67 T em.1) := by
    have := w6'.2.2.2.2.2.2.1.2.1
    omega
  obtain ⟨w7, f7, e20', n20', -⟩ := w6'.em p6 hem2
  have w8 : WAY d T 4 7 0 0 3 S s x25.2 em2.2 := ((w7.ad ex21).ad ex25).nu (by omega) (by omega) (by omega) (by omega) (by omega)
  have v64 : em2.2.a 64 T = 10 := by
    rw [(f7 (T + 1) T (by omega)).1]
    show em.2.a 64 T = 10
    rw [(f6 (T + 1) T (by omega)).1, (f5' (T + 1) T (by omega)).1]
    exact u64
  have v67 : em2.2.a 67 T = em.1 := by
    rw [(f7 (T + 1) T (by omega)).2.2.2.1]
    exact setA_at
  have v66 : em2.2.a 66 T = q.i 20 := by
    rw [(f7 (T + 1) T (by omega)).2.2.1]
    show em.2.a 66 T = q.i 20
    rw [(f6 (T + 1) T (by omega)).2.2.1, (f5' (T + 1) T (by omega)).2.2.1]
    show u.a 66 T = q.i 20
    rw [r66']
    exact r66
  have v71 : em2.2.a 71 T = y5.1 := by
    rw [(f7 (T + 1) T (by omega)).2.2.2.2.2.2.2.1]
    show em.2.a 71 T = y5.1
    rw [(f6 (T + 1) T (by omega)).2.2.2.2.2.2.2.1, (f5' (T + 1) T (by omega)).2.2.2.2.2.2.2.1]
    exact setA_at
  have l20 : (s.i 20).toInt ≤ (sh.2.i 20).toInt := w5.2.2.2.1.2.1
  have h20 : (em2.2.i 20).toInt = (sh.2.i 20).toInt + 2 := by
    rw [n20']
    show (em.2.i 20).toInt + 1 = _
    rw [n20]
    omega
  -- the class's row
  have q54 := hC.2.2.2.2.2.2.2.2.1.2.2
  have n54 := w8.2.2.2.2.2.2.2.2.1
  have n21 := w8.2.2.2.2.2.2.2.1
  have sgP := w8.sg hv
  obtain ⟨a', m, ra', psr, evR, sq⟩ := w8.1.row (v := 205) ⟨by decide, by decide, by decide, by decide⟩ (w8.pay hv (by omega)) (by rw [if_neg (by decide), if_neg (by decide)]; exact sgP) (by omega) epp
  have ea : a' = a := by
    rw [ra] at ra'
    cases ra'
    rfl
  rw [ea] at psr sq
  have f0x := psr.2.2.2.2.2.2.2.2.2.1
  have sqX := ((sq.so (k := 10) (w := x1.1) ⟨by decide, by decide, by decide, by decide⟩).so (k := 9) (w := x5.1) ⟨by decide, by decide, by decide, by decide⟩).so (k := 7) (w := y5.1) ⟨by decide, by decide, by decide, by decide⟩
  have evX : ENV d (CS.setO (CS.setO (CS.setO pp.2 a 10 x1.1) a 9 x5.1) a 7 y5.1) em2.2 := ((evR.so (by decide)).so (by decide)).so (by decide)
  have o5X : (CS.setO (CS.setO (CS.setO pp.2 a 10 x1.1) a 9 x5.1) a 7 y5.1).o a 5 = 0 := ((so_nk (by decide)).trans ((so_nk (by decide)).trans (so_nk (by decide)))).trans f0x.1
  have o7X : (CS.setO (CS.setO (CS.setO pp.2 a 10 x1.1) a 9 x5.1) a 7 y5.1).o a 7 = y5.1 := so_at
  have x38 : (CS.setO (CS.setO (CS.setO pp.2 a 10 x1.1) a 9 x5.1) a 7 y5.1).i 38 = x25.2.i 38 := psr.2.1 38 (by decide) (by decide)
  have x21' : (CS.setO (CS.setO (CS.setO pp.2 a 10 x1.1) a 9 x5.1) a 7 y5.1).i 21 = x25.2.i 21 := psr.2.1 21 (by decide) (by decide)
  obtain ⟨X, hX⟩ : ∃ X, X = CS.setO (CS.setO (CS.setO pp.2 a 10 x1.1) a 9 x5.1) a 7 y5.1 := ⟨_, rfl⟩
  have peX : pe X = pe pp.2 := by rw [hX]; rfl
  have aX : X.a = pp.2.a := by rw [hX]; rfl
  have iX : X.i = pp.2.i := by rw [hX]; rfl
  have oX10 : X.o a 10 = x1.1 := by rw [hX]; exact (so_nk (by decide)).trans ((so_nk (by decide)).trans so_at)
  have oX9 : X.o a 9 = x5.1 := by rw [hX]; exact (so_nk (by decide)).trans so_at
  have oX2 : X.o a 2 = X.i 38 := by rw [iX, psr.2.1 38 (by decide) (by decide), ← psh_o2 epp ra, hX]; exact (so_nk (by decide)).trans ((so_nk (by decide)).trans (so_nk (by decide)))
  rw [← hX] at evX sqX o5X o7X x38 x21' ⊢
  clear hX
  obtain ⟨zX, ⟨r53, r54, -, -⟩, ⟨r50, -, -⟩, -, ⟨g0, -, g3', -⟩, -⟩ := id sqX
  have i50 := w8.2.2.2.2.2.1.2.1
  refine Or.inr (lp_tail hC q1 q2 q3 hT hm hx hB (w8.z (by omega)) (by omega) (Or.inl rfl) sqX (g3'.trans i50) x38 o5X (fun _ => r50.trans g3'.symm) (FRB.rf T _) (TBK.rf _).t9 w8.2.1 evX hG (Or.inl rfl) hV5 g4 ⟨Int.le_refl _, ?_, Int.le_refl _, by have := w8.2.2.2.2.2.2.1.2.2.2; omega⟩ (by rw [x21']; omega) (by rw [r54]; omega) ⟨rfl, rfl, rfl, rfl⟩ (fun u g w hu h1 h2 h3 => ?_) (fun u c1 k h1 h2 hu h3 => ?_) (fun u' c1 v2 v3 qu un uj uf R36 lpf pls _ jw => ?_))
  · have z := w8.2.2.2.2.2.2.1.2.1
    show phI s + 1 ≤ phI em2.2
    omega
  · exact RFR.m205 g0 ⟨(hu 64 (by decide) (by decide) (by decide) (by decide)).trans v64, h1, h2, (hu 71 (by decide) (by decide) (by decide) (by decide)).trans (v71.trans o7X.symm), h3⟩
  · have hk : k = (sh.2.i 20).toInt := by
      unfold PLF at h3
      rw [h1, g0, h2] at h3
      rcases h3 with ⟨z | z, -⟩ | ⟨z, -⟩ | ⟨-, z⟩
      · exact absurd z (by decide)
      · exact absurd z (by decide)
      · exact absurd z (by decide)
      · rw [z, hu 67 (by decide) (by decide) (by decide) (by decide), v67, e20]
    omega
  · have hin := hC.inl q1 q3
    have ckall : CKZ S X := w8.2.2.2.2.1.tr w8.2.2.2.2.2.1.2.2.1 zX
    have veq : vws X u' (c :: L) = vws S s (c :: L) := vws.eqf (T := T) (uf.2) (c :: L) hC.o3 (fun y hy => (hin.o ckall y hy).1) (fun k t h1 h2 h3 => (uf.1 k t h1 h2 h3).trans (w8.2.2.1.fld k t h1 h2 h3)) (fun y hy => by
      have z1 := wid1 (S.o y.2.1 0)
      have z2 := (hin y hy).2.2.1
      omega)
    show JRW A U B b (vw X u' c1 :: vws X u' (c :: L)) X u'
    rw [veq]
    rw [veq] at pls
    obtain ⟨z1, z2, z3, z4, z5, z6, -⟩ := cad
    obtain ⟨o1', o2', o3', o4', o5', o6'⟩ := cop
    obtain ⟨l1, l2, l3, l4, l5, l6⟩ := ccl
    have nt1 : x1.2.i 20 = p.2.i 20 := by
      unfold f_X0_newTarget at ex1
      cases ex1
      rfl
    have nt2 : x5.2.i 20 = x1.2.i 20 := by
      unfold f_X0_newTarget at ex5
      cases ex5
      rfl
    have pa1 := psr.1.1
    have l19 := w3'.l19
    have l11 := w3'.l11
    have m19 := w8.l19
    have m11 := w8.l11
    have a21 : x21.2.i 50 = y9.2.i 50 := by
      unfold f_X0_add at ex21
      cases ex21
      rfl
    have a25 : x25.2.i 50 = em2.2.i 38 := w8.1.2.1.1
    have s38 : em.2.i 38 = sh.2.i 38 := (w5.nv.dif w6.nv).1
    obtain ⟨gf, xg, hg⟩ : ∃ gf : Nat, CDE gf U y1.2 (RS.setA r.2 69 T v69) y5.2 u ∧ ((gf = 2 ∧ ¬ y5.1 = 1) ∨ (gf = 4 ∧ y5.1 = 1)) := by
      rcases hn01 with z | z
      · exact ⟨2, xc.1, Or.inl ⟨rfl, by rw [z]; decide⟩⟩
      · exact ⟨4, xc.2 z, Or.inr ⟨rfl, z⟩⟩
    exact JRW.whi (C1 := y1.2) (C2 := y5.2) (C3 := y9.2) (z1 := RS.setA r.2 69 T v69) (z2 := u) (z3 := sh.2) (z5 := RS.setA em.2 67 T em.1) (jst.go jw (Or.inl rfl) hv.2.1.1) w0.1 ex1 ex5 cad2 z2 (z4.trans (nt2.trans nt1)) z3 z6 (w0.nv.dif w2.nv) w2.1 ex13 o1' o2' o4' (fun k => (CD2.qe rfl).tr ((o3' k).tr (CD2.qe rfl))) o6' (w2.nv.dif w3'.nv) xg (show (gf = 2 ∧ X.o c1.2.1 7 = 0) ∨ (gf = 4 ∧ ¬ X.o c1.2.1 7 = 0) by rw [v2, o7X]; exact hg.imp (fun z => ⟨z.1, b01.resolve_right z.2⟩) (fun z => ⟨z.1, by rw [z.2]; decide⟩)) w3'.1 (w3'.nv.dif w4.nv) w4.1 l1 l2 l4 (fun k => (CD2.qe rfl).tr (l3 k)) l6 (w4.nv.dif w5.nv) w5.1 p5 ex21 hem (fun _ => CD2.qe rfl) rfl (w6.nv.dif w6'.nv) (a21.trans (w5.1.2.1.1.trans s38.symm)) w6'.1 p6 ex25 hem2 ((CD1.pe (b := 0) (peX.trans (ke_X6_push N x25.2 205 _ _ pp epp)) x21' (by rw [iX]; exact psr.2.1 50 (by decide) (by decide)) (by rw [aX, pa1]) (by rw [aX, pa1]) (by rw [iX, psr.2.1 44 (by decide) (by decide)]; omega)).wk (by omega) (by omega)) (fun _ _ => CT7.eq (by rw [aX, pa1])) (by rw [iX]; exact psr.2.1 20 (by decide) (by decide)) (fun _ => CD2.qe qu) ((qe_eq qu).1.1) a25 ⟨un.1, fun j _ => by rw [un.2.1]⟩ (show X.o c1.2.1 0 = 205 by rw [v2]; exact g0) (show X.o c1.2.1 9 = x5.1 by rw [v2]; exact oX9) (show X.o c1.2.1 10 = x1.1 by rw [v2]; exact oX10) (show (vw X u' c1).2.1 67 = em.1 by rw [vw_at (k := 67) ⟨by decide, by decide⟩, v3, uj 67 (by decide) (by decide) (by decide) (by decide)]; exact v67) (show (vw X u' c1).2.1 66 = r.2.i 20 by rw [vw_at (k := 66) ⟨by decide, by decide⟩, v3, uj 66 (by decide) (by decide) (by decide) (by decide), v66]; exact o6'.symm) R36 lpf (show X.o c1.2.1 2 = X.i 38 by rw [v2]; exact oX2) (show NT5 (X.o c1.2.1 9) ∧ NT5 (X.o c1.2.1 10) by rw [v2, oX9, oX10]; exact ⟨nt5 w1.1 ex5, nt5 w0.1 ex1⟩) ⟨by omega, by rw [un.2.2.1]; omega⟩ ⟨by omega, by rw [un.2.2.2]; omega⟩ pls
end
section
/-! both readers: the way through a head in which a name is told -/
theorem WAY.rf {d : Int32} {T : Nat} {P : CS} {q : RS} (h : ENV d P q) (ht : tpI q = (T : Int)) (h36 : P.i 36 = 1) : WAY d T 0 0 0 0 0 P q P q :=
  ⟨h, ht, FRB.rf _ _, TBK.rf _, ⟨rfl, fun _ _ => rfl, fun _ _ _ _ => ⟨rfl, rfl⟩, fun _ _ => rfl, Int.le_refl _, Int.le_refl _, fun _ _ => rfl, fun k h1 h2 => by omega⟩, ⟨rfl, rfl, rfl, rfl, h36⟩, ⟨by omega, by omega, Int.le_refl _, by omega⟩, ⟨by omega, by omega, Int.le_refl _⟩⟩
theorem WAZ.tr {d d0 : Int32} {T : Nat} {p f k y z p1 f1 k1 y1 z1 : Int} {S P R : CS} {s q u : RS} (h : WAZ d0 T p f k y z S s P q) (g : WAY d T p1 f1 k1 y1 z1 P q R u) (hp : 0 ≤ p1) : WAZ d T (p + p1) (f + f1) (k + k1) (y + y1) (z + z1) S s R u := by
  obtain ⟨h1, h2, h3, ⟨ht, hcd, hn⟩, h5, ⟨i1, i3, i4, i5⟩, ⟨n1, n2, n3, n4⟩, ⟨r1, r2, r3⟩, ⟨l1, l2⟩⟩ := h
  obtain ⟨g1, g2, g3, g4, g5, ⟨j1, j2, j3, j4, j5⟩, ⟨m1, m2, m3, m4⟩, ⟨s1, s2, s3⟩⟩ := g
  obtain ⟨t1, t2, t3, t4, t5, t6, t7, t8, t9, t10⟩ := g4.1.1
  obtain ⟨a1, a2, a3, a4, a5, a6, a7, a8, a9⟩ := hn
  exact ⟨g1, g2, h3.tr g3, ⟨ht.tr g4.1.r l1 (by rw [a4]; exact Int.le_refl _) (by rw [a6]; exact Int.le_refl _), hcd.tr (g4.2.wk hcd.1), ⟨t1.trans a1, t2.trans a2, t3.trans a3, t5.trans a4, t6.trans a5, t7.trans a6, t8.trans a7, t9.trans a8, t10.trans a9⟩⟩, h5.tr i3 g5, ⟨j1.trans i1, j3.trans i3, j4.trans i4, j5⟩, ⟨by omega, by omega, by omega, by omega⟩, ⟨by omega, by omega, by omega⟩, ⟨by rw [t4]; exact l1, fun w => by rw [t4]; have := l2 w; omega⟩⟩
theorem WAZ.nu {d : Int32} {T : Nat} {p f k y z p' f' k' y' z' : Int} {S P : CS} {s q : RS} (h : WAZ d T p f k y z S s P q) (hp : p' ≤ p) (hf : f' ≤ f) (hk : k' = k) (hy : y ≤ y') (hz : z' ≤ z) : WAZ d T p' f' k' y' z' S s P q := by
  obtain ⟨h1, h2, h3, h4, h5, h6, ⟨n1, n2, n3, n4⟩, ⟨r1, r2, r3⟩, l⟩ := h
  exact ⟨h1, h2, h3, h4, h5, h6, ⟨by omega, by omega, n3, by omega⟩, ⟨by omega, by omega, r3⟩, l⟩
theorem WAZ.sum {d d0 : Int32} {T : Nat} {p f k y z : Int} {S P : CS} {s q : RS} (h : WAZ d T p f k y z S s P q) (h0 : ENV d0 S s) : SGS P (cnI P).toNat = SGS S (cnI S).toNat ∧ WCS P (cnI P).toNat = WCS S (cnI S).toNat := by
  have w := h0.ri.2.2.2.1
  refine sum_eq w.2 (fun i hi => ?_) h.2.2.2.2.2.1.2.1
  have hi' : (i : Int) < (S.i 53).toInt := by
    have : cnI S = (S.i 53).toInt := rfl
    omega
  exact ⟨h.2.2.2.2.1.2.1 i hi', fun a ha => h.2.2.2.2.1.2.2.1 i a hi' ha⟩
theorem WAZ.sg {d d0 : Int32} {T : Nat} {p f k y z : Int} {S P : CS} {s q : RS} (h : WAZ d T p f k y z S s P q) (h0 : ENV d0 S s) : SGS P (cnI P).toNat + k ≤ sgI P := by
  rw [(h.sum h0).1]
  have e0 := h0.2.2.1.1
  have e1 := h.1.2.2.1.1
  have w := h0.ri.2.2.2.2.2.2
  have n := h.2.2.2.2.2.2.1.2.2.2
  unfold sgI at *
  rw [e0] at w
  rw [e1]
  omega
theorem WAZ.pay {d d0 : Int32} {T : Nat} {p f k y z : Int} {S P : CS} {s q : RS} (h : WAZ d T p f k y z S s P q) (h0 : ENV d0 S s) (hp : 4 ≤ p) : WCS P (cnI P).toNat + 3 ≤ eI P := by
  rw [(h.sum h0).2]
  have w := h0.ri.2.2.2.2.2.1
  have a := (eI.ge S).2
  have b := (eI.ge P).1
  have n := h.2.2.2.2.2.2.1.1
  have e0 := h0.1.2.2.2.1.1
  have e1 := h.1.1.2.2.2.1.1
  unfold plI at a b
  rw [e0] at a
  rw [e1] at b
  omega
theorem WAZ.cl {N : Nat} (hN : 1000 ≤ N) {d d0 : Int32} {T : Nat} {p f k y z : Int} {S P : CS} {s q : RS} {R : Unit × CS} {V : Int32 × RS} {c e : Int32} (h : WAZ d T p f k y z S s P q) (hs : ENV d0 S s) (hk : 1 ≤ k) (hc : tyR c) (hd : tm c = e) (h6 : ¬ e = 6) (h0 : ¬ c = 0) (e1 : f_X1_close N P c = some R) (g : f_X12_shut N q e = some V) : (V.1 = 0 ∧ ¬ R.2.i 32 = 0 ∧ ¬ V.2.i 15 = 0) ∨ (V.1 = 1 ∧ WAZ d T (p + 1) (f + 3) (k - 1) (y - 2) (z + 1) S s R.2 V.2 ∧ (∀ r : Nat, FRB r q V.2) ∧ V.2.i 20 = q.i 20) := by
  have sg := h.sg hs
  rcases y_close hN h.1 (by omega) hc hd h6 h0 e1 g with o | ⟨o1, o2, o3, o4, o5, o6, o7, o8, o9, o10, o11, o12⟩
  · exact Or.inl o
  · have q17 : (V.2.i 17).toInt = (q.i 17).toInt + 1 := by rw [o6, t17_up (N := N) h.1]
    have w0 := WAY.rf h.1 h.2.1 h.2.2.2.2.2.1.2.2.2
    have w1 := w0.tok (p1 := 1) (f1 := 3) (k1 := -1) o3 (qj_63 o4 h.2.1) (FRB.of o4) (TBK.of o4 (by rw [o8]; exact Int.le_refl _) (fun j _ => by rw [o9])) o5 o10 o11 ⟨o7, (by
      unfold phI
      rw [o8, q17]
      omega), by omega, by omega⟩
    exact Or.inr ⟨o1, (h.tr w1 (by omega)).nu (by omega) (by omega) (by omega) (by omega) (by omega), fun r => FRB.of o4, o8⟩
theorem WAZ.s22 {d : Int32} {T j : Nat} {p f k y z : Int} {S P : CS} {s q : RS} {v : Int32} (h : WAZ d T p f k y z S s P q) (hj : (s.i 20).toInt ≤ (j : Int)) : WAZ d T p f k y z S s P (RS.setA q 22 j v) := by
  obtain ⟨h1, h2, h3, ⟨ht, hcd, hn⟩, h5, h6, h7, h8, ⟨l1, l2⟩⟩ := h
  obtain ⟨a1, a2, a3, a4, a5, a6, a7, a8, a9⟩ := hn
  exact ⟨setA_env (Or.inl rfl) h1, h2, h3.tr (setA_frb (Or.inl rfl)), ⟨ht.tr (setA_tb0 (Or.inl rfl)).r l1 (by rw [a4]; exact Int.le_refl _) (by rw [a6]; exact Int.le_refl _), ⟨hcd.1, fun m hm => (setA_ne (by omega)).trans (hcd.2 m hm)⟩, ⟨a1, a2, a3, a4, a5, a6, a7, a8, a9⟩⟩, h5, h6, h7, h8, ⟨l1, l2⟩⟩
theorem WAZ.sa {d : Int32} {T : Nat} {p f k y z : Int} {S P : CS} {s q : RS} {j : Nat} {v : Int32} (h : WAZ d T p f k y z S s P q) (hj : 64 ≤ j ∧ j ≤ 73) : WAZ d T p f k y z S s P (RS.setA q j T v) := ((h.tr ((WAY.rf h.1 h.2.1 h.2.2.2.2.2.1.2.2.2).sa hj) (Int.le_refl _)).nu (by omega) (by omega) (by omega) (by omega) (by omega))
/-- what is expected stands there -/
theorem WAY.nd {N : Nat} (hN : 1000 ≤ N) {d : Int32} {T : Nat} {p f k y z : Int} {S P : CS} {s q : RS} {R : Unit × CS} {V : Int32 × RS} {c e : Int32} (h : WAY d T p f k y z S s P q) (hc : tyR c) (hd : tm c = e) (h6 : ¬ e = 6) (h0 : ¬ c = 0) (e1 : f_X1_expect N P c = some R) (g : f_X12_need N q e = some V) : (V.1 = 0 ∧ ¬ R.2.i 32 = 0 ∧ ¬ V.2.i 15 = 0) ∨ (V.1 = 1 ∧ WAY d T (p + 1) (f + 3) (k + 0) (y - 2 * 1) (z + 1) S s R.2 V.2 ∧ ∀ r : Nat, FRB r q V.2) := by
  rcases y_need hN h.1 hc hd h6 h0 e1 g with o | ⟨o1, o2, o3, o4, o5, o6, o7, o8, o9, o10, o11, o12⟩
  · exact Or.inl o
  · have q17 : (V.2.i 17).toInt = (q.i 17).toInt + 1 := by rw [o6, t17_up (N := N) h.1]
    refine Or.inr ⟨o1, h.tok o3 (qj_63 o4 h.2.1) (FRB.of o4) (TBK.of o4 (by rw [o8]; exact Int.le_refl _) (fun j _ => by rw [o9])) o5 o10 o11 ⟨o7, ?_, by omega, by rw [o12]; omega⟩, fun r => FRB.of o4⟩
    unfold phI
    rw [o8, q17]
    omega
/-- a piece more, with other tellings ahead -/
theorem WAY.cx2 {d d' : Int32} {T : Nat} {p f k y z p1 f1 k1 : Int} {S P R : CS} {s q u : RS} (h : WAY d T p f k y z S s P q) (ev : ENV d' R u) (tu : tpI u = (T : Int)) (fr : FRB T q u) (tb : TBK q u) (ck : CKX P R) (n : (q.i 11).toInt + p1 ≤ (u.i 11).toInt ∧ phI q + f1 ≤ phI u ∧ (q.i 17).toInt ≤ (u.i 17).toInt ∧ (u.i 19).toInt = (q.i 19).toInt + k1) : WAY d' T (p + p1) (f + f1) (k + k1) y z S s R u := by
  obtain ⟨h1, h2, h3, h4, h5, ⟨i1, i2, i3, i4, i5⟩, ⟨h6, h7, h8, h9⟩, ⟨h10, h11, h12⟩⟩ := h
  have k11 := h1.1.2.2.2.1.1
  have k11' := ev.1.2.2.2.1.1
  obtain ⟨⟨a1, a2, a3, a4, a5, a6⟩, -, -, -, -, -, -, -, b1, b2, b3⟩ := id ck
  rw [k11, k11'] at b1 b2 b3
  exact ⟨ev, tu, h3.tr fr, h4.tr tb, h5.tr i3 ck.z, ⟨a3.trans i1, a4.trans i2, a5.trans i3, a6.trans i4, a2.trans i5⟩, ⟨by omega, by omega, by omega, by omega⟩, ⟨by omega, by omega, by omega⟩⟩
/-- the row gets another count of names -/
theorem PSQ.so3 {S R : CS} {a m : Nat} {v x3 w : Int32} (h : PSQ S R a m v x3) : PSQ S (CS.setO R a 3 w) a m v w := by
  obtain ⟨⟨c1, c2, c3, c4, c5, c6, c7, c8⟩, h2, h3, h4, ⟨f0, f1, f3, f14⟩, h6⟩ := h
  refine ⟨⟨c1, c2, fun i b hi hb => ?_, c4, c5, c6, c7, c8⟩, h2, h3, h4, ⟨(so_nk (by decide)).trans f0, (so_nk (by decide)).trans f1, so_at, (so_nk (by decide)).trans f14⟩, h6⟩
  have z := c3 i b hi hb
  rw [so_ne (h6 i b hi hb)]
  exact z
/-- the frame on top, its state aside -/
def FT (T : Nat) (q u : RS) : Prop := u.a 64 T = q.a 64 T ∧ u.a 66 T = q.a 66 T ∧ u.a 67 T = q.a 67 T ∧ u.a 68 T = q.a 68 T ∧ u.a 69 T = q.a 69 T ∧ u.a 70 T = q.a 70 T ∧ u.a 71 T = q.a 71 T ∧ u.a 72 T = q.a 72 T ∧ u.a 73 T = q.a 73 T
theorem FT.tr {T : Nat} {q u w : RS} (h : FT T q u) (g : FT T u w) : FT T q w := by
  obtain ⟨h1, h2, h3, h4, h5, h6, h7, h8, h9⟩ := h
  obtain ⟨g1, g2, g3, g4, g5, g6, g7, g8, g9⟩ := g
  exact ⟨g1.trans h1, g2.trans h2, g3.trans h3, g4.trans h4, g5.trans h5, g6.trans h6, g7.trans h7, g8.trans h8, g9.trans h9⟩
theorem FRB.ft {T : Nat} {q u : RS} (h : ∀ r : Nat, FRB r q u) : FT T q u ∧ u.a 65 T = q.a 65 T := by
  obtain ⟨f0, f1, f2, f3, f4, f5, f6, f7, f8, f9, -⟩ := h (T + 1) T (by omega)
  exact ⟨⟨f0, f2, f3, f4, f5, f6, f7, f8, f9⟩, f1⟩
theorem EXO.ft {d : Int32} {T : Nat} {st : Int32} {S R : CS} {q u : RS} (x : EXO d T st S q R u) : FT T q u ∧ u.a 65 T = st := by
  obtain ⟨f0, f1, f2, f3, f4, f5, f6, f7, f8, f9, -⟩ := x.2.2.1
  exact ⟨⟨f0, f2, f3, f4, f5, f6, f7, f8, f9⟩, f1⟩
theorem FT.s65 {T : Nat} {q : RS} {v : Int32} : FT T q (RS.setA q 65 T v) := ⟨rfl, rfl, rfl, rfl, rfl, rfl, rfl, rfl, rfl⟩
theorem WAZ.em {N : Nat} {d : Int32} {T : Nat} {p f k y z : Int} {S P : CS} {s q : RS} {o x : Int32} {v : Int32 × RS} (h : WAZ d T p f k y z S s P q) (h1 : 1 ≤ phI q) (e : f_X12_emit N q o x = some v) : WAZ d T p (f - 1) k y z S s P v.2 ∧ (∀ r : Nat, FRB r q v.2) ∧ v.1 = q.i 20 ∧ (v.2.i 20).toInt = (q.i 20).toInt + 1 ∧ v.2.i 10 = q.i 10 := by
  obtain ⟨w1, w2, w3, w4, w5⟩ := (WAY.rf h.1 h.2.1 h.2.2.2.2.2.1.2.2.2).em h1 e
  exact ⟨(h.tr w1 (by omega)).nu (by omega) (by omega) (by omega) (by omega) (by omega), w2, w3, w4, w5⟩
theorem WAZ.ad {N : Nat} {d : Int32} {T : Nat} {p f k y z : Int} {S P : CS} {s q : RS} {o x : Int32} {w : Unit × CS} (h : WAZ d T p f k y z S s P q) (e : f_X0_add N P o x = some w) : WAZ d T p f k y z S s w.2 q :=
  (h.tr ((WAY.rf h.1 h.2.1 h.2.2.2.2.2.1.2.2.2).ad e) (by omega)).nu (by omega) (by omega) (by omega) (by omega) (by omega)
theorem WAZ.ai {N : Nat} {d : Int32} {T : Nat} {p f k y z : Int} {S P : CS} {s q : RS} {x : Int32} {w : Unit × CS} (h : WAZ d T p f k y z S s P q) (e : f_X0_aim N P x = some w) : WAZ d T p f k y z S s w.2 q :=
  (h.tr ((WAY.rf h.1 h.2.1 h.2.2.2.2.2.1.2.2.2).ai e) (by omega)).nu (by omega) (by omega) (by omega) (by omega) (by omega)
theorem WAZ.nt {N : Nat} {d : Int32} {T : Nat} {p f k y z : Int} {S P : CS} {s q : RS} {w : Int32 × CS} (h : WAZ d T p f k y z S s P q) (h21 : (P.i 21).toInt + 1 ≤ 3 * (q.i 11).toInt + 8) (e : f_X0_newTarget N P = some w) : WAZ d T p f k (y + 1) z S s w.2 q :=
  (h.tr ((WAY.rf h.1 h.2.1 h.2.2.2.2.2.1.2.2.2).nt h21 e) (by omega)).nu (by omega) (by omega) (by omega) (by omega) (by omega)
theorem WAZ.nd {N : Nat} (hN : 1000 ≤ N) {d : Int32} {T : Nat} {p f k y z : Int} {S P : CS} {s q : RS} {R : Unit × CS} {V : Int32 × RS} {c e : Int32} (h : WAZ d T p f k y z S s P q) (hc : tyR c) (hd : tm c = e) (h6 : ¬ e = 6) (h0 : ¬ c = 0) (e1 : f_X1_expect N P c = some R) (g : f_X12_need N q e = some V) : (V.1 = 0 ∧ ¬ R.2.i 32 = 0 ∧ ¬ V.2.i 15 = 0) ∨ (V.1 = 1 ∧ WAZ d T (p + 1) (f + 3) k (y - 2) (z + 1) S s R.2 V.2 ∧ ∀ r : Nat, FRB r q V.2) := by
  rcases (WAY.rf h.1 h.2.1 h.2.2.2.2.2.1.2.2.2).nd hN hc hd h6 h0 e1 g with o | ⟨o1, w1, w2⟩
  · exact Or.inl o
  · exact Or.inr ⟨o1, (h.tr w1 (by omega)).nu (by omega) (by omega) (by omega) (by omega) (by omega), w2⟩
theorem WAZ.nx {N : Nat} (hN : 1000 ≤ N) {d : Int32} {T : Nat} {p f k y z : Int} {S P : CS} {s q u : RS} {R : Unit × CS} (h : WAZ d T p f k y z S s P q) (nz : ¬ P.i 43 = 0) (e : f_X9_advance N P = some R) (g : f_X12_next N q = some u) : WAZ d T (p + 1) (f + 3) k (y - 2) (z + 1) S s R.2 u ∧ (∀ r : Nat, FRB r q u) := by
  obtain ⟨w1, w2⟩ := (WAY.rf h.1 h.2.1 h.2.2.2.2.2.1.2.2.2).nx hN nz e g
  exact ⟨(h.tr w1 (by omega)).nu (by omega) (by omega) (by omega) (by omega) (by omega), w2⟩
theorem WAZ.exo {d : Int32} {T : Nat} {st : Int32} {p f k y z : Int} {S P R : CS} {s q u : RS} (h : WAZ d T p f k y z S s P q) (x : EXO d T st P q R u) : WAZ d T (p + 1) (f + 1) k y z S s R u :=
  (h.tr ((WAY.rf h.1 h.2.1 h.2.2.2.2.2.1.2.2.2).exo x) (by omega)).nu (by omega) (by omega) (by omega) (by omega) (by omega)
theorem WAZ.lo {d : Int32} {T : Nat} {p f k y z : Int} {S P : CS} {s q : RS} (h : WAZ d T p f k y z S s P q) : (s.i 11).toInt + p ≤ (q.i 11).toInt ∧ phI s + f ≤ phI q ∧ (s.i 20).toInt ≤ (q.i 20).toInt ∧ (P.i 21).toInt + 2 * (s.i 11).toInt ≤ (S.i 21).toInt + 2 * (q.i 11).toInt + y ∧ (P.i 54).toInt + (s.i 11).toInt + z ≤ (S.i 54).toInt + (q.i 11).toInt := ⟨h.2.2.2.2.2.2.1.1, h.2.2.2.2.2.2.1.2.1, h.2.2.2.1.2.1.1, h.2.2.2.2.2.2.2.1.1, h.2.2.2.2.2.2.2.1.2.1⟩
end
section
/-! both readers: for, from its head's end -/
/-- the test is good -/
def TG1 (FC : Nat → Prop) (SF : CS) (U : RS) (nm : Nat → Nat → Prop) (X : Als) (x : Int32) (qt ω : Nat) (j : JCT) : Prop := ∃ p : Nat, (cTg SF x).toInt = (p : Int) ∧ p ≤ 1200 ∧ ∀ g : Nat, GU FC SF U nm X p qt j.h (ω + j.l + 1264 - p) g j.c
/-- as PRN, behind p0 -/
def PRF (FC : Nat → Prop) (SF : CS) (U : RS) (nm : Nat → Nat → Prop) (X : Als) (p0 : Nat) (x : Int32) (i : Nat) (ω : Nat) (j : JCT) : Prop := ∃ p q : Nat, p0 < p ∧ (cTg SF x).toInt = (p : Int) ∧ (U.a 22 i).toInt = (q : Int) ∧ GU FC SF U nm X p q j.h (ω + j.l - p) 0 j.c
/-- behind the test: where its two jumps lead to good places, all before is good -/
def KF6 (U : RS) (x5 x1 x3 x4 : Int32) (p0 f3 f4 qt : Nat) : JKT := fun FC SF nm X ω j Z => (¬ x5 = 1 → PRN FC SF U nm X x4 f4 ω j) → PRF FC SF U nm X p0 x3 f3 ω (j.up 1264) → Z ∧ TG1 FC SF U nm X x1 qt ω j
/-- the update: where this place is good, the head is -/
def KF7 (U : RS) (x2 : Int32) (qn : Int32) (p q : Nat) : JKT := JQA U 2528 0 p q (fun FC SF nm X ω j _ => HE5 FC SF U nm X x2 qn ω (j.up 1264))
set_option maxHeartbeats 4000000 in
theorem fo_seven {N : Nat} (hN : 1000 ≤ N) {E1 : CS → Option (Unit × CS)} {E2 : CS → Option (Int32 × CS)} {d : Int32} {B : CS} {b : RS} {t0 T n : Nat} {L : List CEL} {x : Int} {S P : CS} {s q U : RS} {c : CEL} {W : Option Nat × CS} {R : Unit × CS} {x1 x2 x3 x4 x5 : Int32} {p0 : Nat} {A : JBA} (hC : COR d B b t0 (c :: L) x S s) (q1 : TOP S s c) (q2 : LOW S s c) (q3 : T = ceT c + wid (S.o c.2.1 0)) (hT : t0 ≤ T) (hm : NMC c S) (hx : S.o c.2.1 0 = 303 → x = -3) (hB : BOT b S (c :: L)) (w : WAZ d T 4 8 1 (-4) 4 S s P q) (k64 : q.a 64 T = 12) (k65 : q.a 65 T = 7) (k71 : q.a 71 T = S.i 50) (k72 : q.a 72 T = x5) (k67 : (s.i 20).toInt ≤ (q.a 67 T).toInt ∧ (q.a 67 T).toInt < (q.i 20).toInt) (k68 : (s.i 20).toInt ≤ (q.a 68 T).toInt) (n5 : NT5 x2 ∧ NT5 x4) (k70 : 0 ≤ (q.a 70 T).toInt) (k66 : 0 ≤ (q.a 66 T).toInt ∧ (q.a 67 T).toInt < (q.a 68 T).toInt) (jg : KU3 U s → JRW A U B b (vws S s (c :: L)) S s → JRG A U B b (vws S s (c :: L)) s [hv x2, sv (q.a 68 T), sv (q.a 67 T), tv x4, tv x3] (JAN (JAN (KF6 U x5 x1 x3 x4 p0 (q.a 68 T).toNatClampNeg (q.a 67 T).toNatClampNeg (q.a 66 T).toNatClampNeg) (JLT p0 (pcC P))) (KF7 U x2 (q.a 70 T) (pcC P) (pcR q))) (-2) 1 P q) (e : f_X7_forHead_113 N E1 E2 P x1 x2 x3 x4 x5 = some W) (e2 : f_X7_beginFor_85 N E1 E2 W.2 (S.i 50) W.1 = some R) (g : f_X12_parse_10 N n q = some U) : (¬ R.2.i 32 = 0 ∧ ¬ U.i 15 = 0) ∨ DMD d B R.2 U ∨ ∃ (m : Nat) (u : RS), f_X12_parse_10 N m u = some U ∧ NEW d B b t0 c L R.2 u (JTR A U B b (c :: L) S s) := by
  have hvS := hC.1
  -- the class, taken apart
  unfold f_X7_forHead_113 at e
  obtain ⟨p47, e47, e⟩ := hf_bind e
  obtain ⟨p51, e51, e⟩ := hf_bind e
  obtain ⟨p55, e55, e⟩ := hf_bind e
  obtain ⟨p59, e59, e⟩ := hf_bind e
  obtain ⟨p63, e63, e⟩ := hf_bind e
  obtain ⟨pp, a, epp, ra, hp63⟩ := pl_in e63
  rw [hp63] at e
  have e' : (if x5 = 0 ∨ x5 = 1 then if oK (CS.setO (CS.setO pp.2 a 10 x2) a 9 x4) a 0 then some ((some a), CS.setO (CS.setO (CS.setO pp.2 a 10 x2) a 9 x4) a 7 x5) else none else none) = some W := e
  obtain ⟨b01, e'⟩ := hf_ite e'
  obtain ⟨-, e'⟩ := hf_ite e'
  cases e'
  have e2' : (if oK (CS.setO (CS.setO (CS.setO pp.2 a 10 x2) a 9 x4) a 7 x5) a 0 then some ((), CS.setO (CS.setO (CS.setO (CS.setO pp.2 a 10 x2) a 9 x4) a 7 x5) a 3 (S.i 50)) else none) = some R := e2
  obtain ⟨-, e2'⟩ := hf_ite e2'
  cases e2'
  have f47 : ¬ p47.2.i 32 = 0 → ¬ pp.2.i 32 = 0 := fun z => by
    have z1 : ¬ p51.2.i 32 = 0 := by rw [fst_add e51]; exact z
    have z2 : ¬ p55.2.i 32 = 0 := by rw [kF_X0_aim N p51.2 x3 p55 e55 z1]; exact z1
    have z3 : ¬ p59.2.i 32 = 0 := by rw [fst_add e59]; exact z2
    rw [kF_X6_push N p59.2 207 _ _ pp epp z3]
    exact z3
  show (¬ pp.2.i 32 = 0 ∧ ¬ U.i 15 = 0) ∨ DMD d B (CS.setO (CS.setO (CS.setO (CS.setO pp.2 a 10 x2) a 9 x4) a 7 x5) a 3 (S.i 50)) U ∨ ∃ (m : Nat) (u : RS), f_X12_parse_10 N m u = some U ∧ NEW d B b t0 c L (CS.setO (CS.setO (CS.setO (CS.setO pp.2 a 10 x2) a 9 x4) a 7 x5) a 3 (S.i 50)) u (JTR A U B b (c :: L) S s)
  -- the reference
  obtain ⟨m2, V, hV, g2⟩ := rl_12 g w.2.1 w.1.1.2.1 k64
  unfold f_X12_fors at hV
  obtain ⟨-, hV⟩ := hf_ite hV
  rw [tp_nat w.2.1, if_neg (show ¬ q.a 65 T = 0 by rw [k65]; decide), if_neg (show ¬ q.a 65 T = 1 by rw [k65]; decide), if_neg (show ¬ q.a 65 T = 2 by rw [k65]; decide), if_neg (show ¬ q.a 65 T = 3 by rw [k65]; decide), if_neg (show ¬ q.a 65 T = 4 by rw [k65]; decide), if_neg (show ¬ q.a 65 T = 5 by rw [k65]; decide), if_neg (show ¬ q.a 65 T = 6 by rw [k65]; decide), if_pos k65] at hV
  obtain ⟨em, hem, hV⟩ := hf_bind hV
  obtain ⟨sh, hsh, hV⟩ := hf_bind hV
  obtain ⟨hib, hV⟩ := hf_ite hV
  obtain ⟨em2, hem2, hV⟩ := hf_bind hV
  obtain ⟨G, hG, hV⟩ := hf_bind hV
  rw [ob_id] at hV
  have lo := w.lo
  have ph0 := hvS.2.2.2.2.2.2.2.1
  obtain ⟨w1, f1, e20, n20, -⟩ := w.em (by omega) hem
  rcases w1.cl hN hvS (by omega) (c := 41) (e := 41) (Or.inl ⟨by decide, by decide⟩) (by decide) (by decide) (by decide) e47 hsh with ⟨o1, o2, o3⟩ | ⟨o1, w2, f2, sh20⟩
  · refine Or.inl ⟨f47 o2, u_flt g2 (krf_f_X12_body N _ 8 V hV ?_)⟩
    show ¬ G.2.i 15 = 0
    exact krf_f_X12_loopGoal N em2.2 G hG (krf_f_X12_emit N _ 1 0 em2 hem2 o3)
  obtain ⟨ft1, -⟩ := FRB.ft (T := T) f1
  obtain ⟨ft2, -⟩ := FRB.ft (T := T) f2
  have ft12 := ft1.tr ft2
  have c68 := clampI hib.1
  rw [ft12.2.2.2.1] at c68 hib hem2
  have w3 := w2.s22 (j := (q.a 68 T).toNatClampNeg) (v := sh.2.i 20) (by omega)
  have lo3 := w3.lo
  obtain ⟨w4, f4, e20', n20', -⟩ := w3.em (by omega) hem2
  obtain ⟨ft4, -⟩ := FRB.ft (T := T) f4
  have fq : FT T q em2.2 := ft12.tr ((show FT T sh.2 (RS.setA sh.2 22 (q.a 68 T).toNatClampNeg (sh.2.i 20)) from ⟨rfl, rfl, rfl, rfl, rfl, rfl, rfl, rfl, rfl⟩).tr ft4)
  have w5 : WAZ d T 5 9 0 (-6) 5 S s p59.2 em2.2 := (((w4.ad e51).ai e55).ad e59).nu (by omega) (by omega) (by omega) (by omega) (by omega)
  have s20 : (q.i 20).toInt ≤ (em2.2.i 20).toInt := by
    have z1 : (em.2.i 20).toInt ≤ (sh.2.i 20).toInt := by
      rw [sh20]
      exact Int.le_refl _
    have z2 : ((RS.setA sh.2 22 (q.a 68 T).toNatClampNeg (sh.2.i 20)).i 20) = sh.2.i 20 := rfl
    rw [z2] at n20'
    omega
  -- the class's row
  have lo5 := w5.lo
  have q54 := hC.2.2.2.2.2.2.2.2.1.2.2
  have t21 := hC.2.2.2.2.2.2.2.2.1.1
  have sgP := w5.sg hvS
  obtain ⟨a', m, ra', psr, evR, sq⟩ := w5.1.row (v := 207) ⟨by decide, by decide, by decide, by decide⟩ (w5.pay hvS (by omega)) (by rw [if_neg (by decide), if_neg (by decide)]; exact sgP) (by omega) epp
  have ea : a' = a := by
    rw [ra] at ra'
    cases ra'
    rfl
  rw [ea] at psr sq
  have f0x := psr.2.2.2.2.2.2.2.2.2.1
  have sqX := (((sq.so (k := 10) (w := x2) ⟨by decide, by decide, by decide, by decide⟩).so (k := 9) (w := x4) ⟨by decide, by decide, by decide, by decide⟩).so (k := 7) (w := x5) ⟨by decide, by decide, by decide, by decide⟩).so3 (w := S.i 50)
  have evX : ENV d (CS.setO (CS.setO (CS.setO (CS.setO pp.2 a 10 x2) a 9 x4) a 7 x5) a 3 (S.i 50)) em2.2 := (((evR.so (by decide)).so (by decide)).so (by decide)).so (by decide)
  have o5X : (CS.setO (CS.setO (CS.setO (CS.setO pp.2 a 10 x2) a 9 x4) a 7 x5) a 3 (S.i 50)).o a 5 = 0 := ((so_nk (by decide)).trans ((so_nk (by decide)).trans ((so_nk (by decide)).trans (so_nk (by decide))))).trans f0x.1
  have o7X : (CS.setO (CS.setO (CS.setO (CS.setO pp.2 a 10 x2) a 9 x4) a 7 x5) a 3 (S.i 50)).o a 7 = x5 := (so_nk (by decide)).trans so_at
  have x38 : (CS.setO (CS.setO (CS.setO (CS.setO pp.2 a 10 x2) a 9 x4) a 7 x5) a 3 (S.i 50)).i 38 = p59.2.i 38 := psr.2.1 38 (by decide) (by decide)
  have x21' : (CS.setO (CS.setO (CS.setO (CS.setO pp.2 a 10 x2) a 9 x4) a 7 x5) a 3 (S.i 50)).i 21 = p59.2.i 21 := psr.2.1 21 (by decide) (by decide)
  obtain ⟨X, hX⟩ : ∃ X, X = CS.setO (CS.setO (CS.setO (CS.setO pp.2 a 10 x2) a 9 x4) a 7 x5) a 3 (S.i 50) := ⟨_, rfl⟩
  have peX : pe X = pe pp.2 := by rw [hX]; rfl
  have aX : X.a = pp.2.a := by rw [hX]; rfl
  have iX : X.i = pp.2.i := by rw [hX]; rfl
  have oX10 : X.o a 10 = x2 := by rw [hX]; exact (so_nk (by decide)).trans ((so_nk (by decide)).trans ((so_nk (by decide)).trans so_at))
  have oX9 : X.o a 9 = x4 := by rw [hX]; exact (so_nk (by decide)).trans ((so_nk (by decide)).trans so_at)
  have oX2 : X.o a 2 = X.i 38 := by rw [iX, psr.2.1 38 (by decide) (by decide), ← psh_o2 epp ra, hX]; exact (so_nk (by decide)).trans ((so_nk (by decide)).trans ((so_nk (by decide)).trans (so_nk (by decide))))
  rw [← hX] at evX sqX o5X o7X x38 x21' ⊢
  clear hX
  obtain ⟨zX, ⟨r53, r54, -, -⟩, ⟨r50, -, -⟩, -, ⟨g0, -, g3', -⟩, -⟩ := id sqX
  refine Or.inr (lp_tail hC q1 q2 q3 hT hm hx hB w5 (by omega) (Or.inr (Or.inr (Or.inl rfl))) sqX g3' x38 o5X (fun z => by rcases z with z | z <;> exact absurd z (by decide)) (FRB.rf T _) (TBK.rf _).t9 w5.2.1 evX hG (Or.inr rfl) hV g2 ⟨Int.le_refl _, ?_, Int.le_refl _, by have := w5.2.2.2.2.2.2.1.2.2.2; omega⟩ (by rw [x21']; omega) (by rw [r54]; omega) ⟨rfl, rfl, rfl, rfl⟩ (fun u g w hu h1 h2 h3 => ?_) (fun u c1 k h1 h2 hu h3 => ?_) (fun u' c1 v2 v3 qu un uj uf R36 lpf pls ku jw => ?_))
  · show phI s + 1 ≤ phI em2.2
    omega
  · exact RFR.m207 g0 ⟨(hu 64 (by decide) (by decide) (by decide) (by decide)).trans (fq.1.trans k64), h1, h2, (hu 71 (by decide) (by decide) (by decide) (by decide)).trans (fq.2.2.2.2.2.2.1.trans (k71.trans g3'.symm)), (hu 72 (by decide) (by decide) (by decide) (by decide)).trans (fq.2.2.2.2.2.2.2.1.trans (k72.trans o7X.symm)), h3⟩
  · have hk : k = (q.a 67 T).toInt := by
      unfold PLF at h3
      rw [h1, g0, h2] at h3
      rcases h3 with ⟨z | z, -⟩ | ⟨z, -⟩ | ⟨-, z⟩
      · exact absurd z (by decide)
      · exact absurd z (by decide)
      · exact absurd z (by decide)
      · rw [z, hu 67 (by decide) (by decide) (by decide) (by decide), fq.2.2.1]
    omega
  · have hin := hC.inl q1 q3
    have ckall : CKZ S X := w5.2.2.2.2.1.tr w5.2.2.2.2.2.1.2.1 zX
    have veq : vws X u' (c :: L) = vws S s (c :: L) := vws.eqf (T := T) (uf.2) (c :: L) hC.o3 (fun y hy => (hin.o ckall y hy).1) (fun k t h1 h2 h3 => (uf.1 k t h1 h2 h3).trans (w5.2.2.1.fld k t h1 h2 h3)) (fun y hy => by
      have z1 := wid1 (S.o y.2.1 0)
      have z2 := (hin y hy).2.2.1
      omega)
    show JRW A U B b (vw X u' c1 :: vws X u' (c :: L)) X u'
    rw [veq] at pls ⊢
    have pa1 := psr.1.1
    have h20 := w.1.p20
    have hb := hC.2.2.2.2.2.1.2.2.1.1
    have j0 := jg ku jw
    have j1 := j0.emt hem ⟨h20.1, by omega⟩
    have j2 := j1.cls hN w1.1 (by have := w1.sg hvS; omega) (c := 41) (c' := 41) (Or.inl ⟨by decide, by decide⟩) (by decide) (by decide) (by decide) e47 hsh o1
    have g44 : (p47.2.i 44).toInt = (sh.2.i 11).toInt := by rw [w2.1.p44.1]
    have g6 := (i11_hi w2.1).2
    have j3 := j2.add e51 (by omega) (by omega)
    have pc47 : pcC p47.2 = pcC P := pcC.pe (ke_X1_close N P 41 p47 e47)
    have c66 := clampI k66.1
    have j4 := j3.imp (a1 := -2) (e1 := 0) (K' := fun FC SF nm X ω j Z => p0 < pcC p51.2 ∧ ((¬ x5 = 1 → PRN FC SF U nm X x4 (q.a 67 T).toNatClampNeg ω j) → PRF FC SF U nm X p0 x3 (q.a 68 T).toNatClampNeg ω (j.up 1264) → Z ∧ HE5 FC SF U nm X x2 (q.a 70 T) ω (j.up 1264))) (by omega) (by omega) (fun FC SF nm X ω j Z hc hh tyc tl hω r12 k => by
      obtain ⟨⟨s1, s2, s3, s4⟩, ⟨u1, u2, u3, u4, u5⟩, ⟨k1, k0⟩, k2⟩ := k
      have k0' : p0 < pcC P := k0
      refine ⟨by omega, fun r4 r3 => ?_⟩
      obtain ⟨z1, pt, z2, z3, z4⟩ := k1 r4 r3
      rw [pc47] at s1 s2 s3
      have pq : PQX SF U (pcC P) (pcR q) := ⟨s3, u4⟩
      refine ⟨z1, k2 (fun g => gi_UJmp (pq.hc hc) pq.2.1 ⟨s1, u1, pt, (q.a 66 T).toNatClampNeg, _, ⟨by rw [s2]; exact z2, by rw [u2]; exact c66.symm⟩, ?_, z4 0⟩)⟩
      omega)
    have i51 : p51.2.i 44 = p47.2.i 44 := by
      unfold f_X0_add at e51
      cases e51
      rfl
    have j5 := JRG.aim (W1 := [hv x2, sv (q.a 68 T), sv (q.a 67 T), tv x4]) (W2 := []) (K' := fun FC SF nm X ω j Z => (cTg SF x3).toInt = ((pcC p51.2 : Nat) : Int) ∧ p0 < pcC p51.2 ∧ ((¬ x5 = 1 → PRN FC SF U nm X x4 (q.a 67 T).toNatClampNeg ω j) → PRF FC SF U nm X p0 x3 (q.a 68 T).toNatClampNeg ω (j.up 1264) → Z ∧ HE5 FC SF U nm X x2 (q.a 70 T) ω (j.up 1264))) j4 e55 (by rw [i51]; omega) (by omega) (fun FC SF nm X ω j Z h k => ⟨h, k⟩)
    have j6 := JRG.pat (W1 := [hv x2]) (W2 := [sv (q.a 67 T), tv x4]) (v := sh.2.i 20) (n := (q.a 68 T).toNatClampNeg) (K' := fun FC SF nm X ω j Z => U.a 22 (q.a 68 T).toNatClampNeg = sh.2.i 20 ∧ (cTg SF x3).toInt = ((pcC p51.2 : Nat) : Int) ∧ p0 < pcC p51.2 ∧ ((¬ x5 = 1 → PRN FC SF U nm X x4 (q.a 67 T).toNatClampNeg ω j) → PRF FC SF U nm X p0 x3 (q.a 68 T).toNatClampNeg ω (j.up 1264) → Z ∧ HE5 FC SF U nm X x2 (q.a 70 T) ω (j.up 1264))) j5 (by omega) (by omega) rfl (Or.inl k68) (fun y hy z => by
      rcases List.mem_cons.mp hy with e9 | hy
      · rw [e9] at z
        exact hv.site z
      rcases List.mem_cons.mp hy with e9 | hy
      · rw [e9] at z
        have := sv.site.mp z
        omega
      · rw [List.mem_singleton.mp hy] at z
        exact tv.site z) (fun FC SF nm X ω j Z h k => ⟨h, k⟩)
    have i55 : p55.2.i 20 = p51.2.i 20 ∧ p55.2.i 44 = p51.2.i 44 := by
      unfold f_X0_aim at e55
      cases e55
      exact ⟨rfl, rfl⟩
    have pc55 : pcC p55.2 = pcC p51.2 := by unfold pcC; rw [i55.1]
    have sh20' := w2.1.p20
    have pr0 : pcR (RS.setA sh.2 22 (q.a 68 T).toNatClampNeg (sh.2.i 20)) = pcR sh.2 := rfl
    have j7 := j6.imp (a1 := -2) (e1 := 0) (K' := JQA U 1264 0 (pcC p55.2) (pcR (RS.setA sh.2 22 (q.a 68 T).toNatClampNeg (sh.2.i 20))) (fun FC SF nm X ω j Z => (¬ x5 = 1 → PRN FC SF U nm X x4 (q.a 67 T).toNatClampNeg ω j) → Z ∧ HE5 FC SF U nm X x2 (q.a 70 T) ω (j.up 1264))) (by omega) (by omega) (fun FC SF nm X ω j Z _ _ _ _ _ _ k gu r4 => by
      refine k.2.2.2 r4 ⟨pcC p51.2, pcR sh.2, k.2.2.1, k.2.1, by rw [k.1]; exact (Int.toNat_of_nonneg sh20'.1).symm, ?_⟩
      have z := gu 0
      rw [pc55, pr0] at z
      have e9 : ω + (j.up 1264).l - pcC p51.2 = ω + j.l + 1264 - pcC p51.2 := by
        show ω + (j.l + 1264) - pcC p51.2 = _
        omega
      rw [e9]
      exact z)
    have j8 := j7.stp (δ' := 3792) e59 (by rw [i55.2, i51]; omega) (by omega) hem2 ⟨sh20'.1, by show (sh.2.i 20).toInt < 3000; omega⟩ (by omega)
    have kp := ke_X6_push N p59.2 207 _ _ pp epp
    have j9 := j8.ce (peX.trans kp) x21' (by rw [aX, pa1]) (by rw [aX, pa1]) (by rw [iX]; exact psr.2.1 50 (by decide) (by decide)) (by rw [iX]; exact psr.2.1 44 (by decide) (by decide))
    have j10 := j9.se qu ⟨un.1, fun j _ => by rw [un.2.1]⟩
    have pc5 : pcC X = pcC p59.2 := pcC.pe (peX.trans kp)
    have pr5 : pcR u' = pcR em2.2 := pcR.qe qu
    have hr : (vw X u' c1).v = 207 := show X.o c1.2.1 0 = 207 by rw [v2]; exact g0
    have r67 : (vw X u' c1).2.1 67 = q.a 67 T := show (vw X u' c1).2.1 67 = _ by rw [vw_at (k := 67) ⟨by decide, by decide⟩, v3, uj 67 (by decide) (by decide) (by decide) (by decide)]; exact fq.2.2.1
    have r70 : (vw X u' c1).2.1 70 = q.a 70 T := show (vw X u' c1).2.1 70 = _ by rw [vw_at (k := 70) ⟨by decide, by decide⟩, v3, uj 70 (by decide) (by decide) (by decide) (by decide)]; exact fq.2.2.2.2.2.1
    have r9 : (vw X u' c1).1 9 = x4 := show X.o c1.2.1 9 = x4 by rw [v2]; exact oX9
    have r10 : (vw X u' c1).1 10 = x2 := show X.o c1.2.1 10 = x2 by rw [v2]; exact oX10
    have jl : jlv (vw X u' c1).v = 3792 := by rw [hr]; rfl
    refine j10.ps0 (r := vw X u' c1) ⟨by omega, fun _ => ⟨by omega, by rw [r10]; exact List.mem_cons_self⟩, fun y => absurd (hr.symm.trans y) (by decide), by rw [hr]; decide⟩ (Or.inl (by omega)) lpf.1 (by rw [un.2.2.1]; omega) (by rw [un.2.2.2]; have := w5.2.2.2.2.2.2.1.2.2.2; omega) pls (fun z => ?_) (by rw [hr]; decide) (by rw [hr]; decide) (by rw [hr]; decide) (by rw [hr]; decide) (fun k z => ?_) ?_ (fun _ => lpf.gl (show X.o c1.2.1 2 = X.i 38 by rw [v2]; exact oX2) (show NT5 (X.o c1.2.1 9) ∧ NT5 (X.o c1.2.1 10) by rw [v2, oX9, oX10]; exact ⟨n5.2, n5.1⟩) ⟨fun y => by rcases y with y | y | y <;> exact absurd (hr.symm.trans y) (by decide), fun _ => by rw [r70]; exact k70⟩ (by rw [hr]; decide)) R36 (fun FC SF nm X' G' col YJ ω j Z hω r12 hc hh k jr cur => ?_)
    · rcases z with z | z | z | z <;> rw [hr] at z <;> exact absurd z (by decide)
    · unfold rsite at z
      rw [hr] at z
      rcases z with ⟨z, -⟩ | ⟨z, -⟩ | ⟨-, z⟩ | ⟨z, -⟩
      · rcases z with z | z | z <;> exact absurd z (by decide)
      · exact absurd z (by decide)
      · rw [r67] at z
        exact ⟨_, List.mem_cons_of_mem _ List.mem_cons_self, sv.site.mpr z⟩
      · exact absurd z (by decide)
    · have e1 : rtgs (vw X u' c1) = [x4] := by
        unfold rtgs
        rw [hr, if_neg (by decide), if_pos (by decide), r9]
      have e2 : ptl [hv x2, sv (q.a 67 T), tv x4] = [x4] := by
        show rtgs (hv x2) ++ (rtgs (sv (q.a 67 T)) ++ (rtgs (tv x4) ++ [])) = _
        rw [hv.tgs, sv.tgs, tv.tgs]
        rfl
      rw [e1]
      exact List.Perm.of_eq e2.symm
    · rw [jl, pc5, pr5] at cur
      have prt := (jr.2.2.2.2.1 hr).1
      rw [r9, r67, show (vw X u' c1).1 7 = x5 from (show X.o c1.2.1 7 = x5 by rw [v2]; exact o7X)] at prt
      have e9 : ω + (j.l + 3792) - pcC p59.2 = ω + j.l + 3792 - pcC p59.2 := by omega
      have c2 := cur.2
      rw [e9] at c2
      have z := k c2 (fun y => prt (b01.resolve_right y))
      refine ⟨z.1, fun y => absurd (hr.symm.trans y) (by decide), fun y => absurd (hr.symm.trans y) (by decide), fun _ => ?_, fun y => absurd (hr.symm.trans y) (by decide), fun y => absurd (hr.symm.trans y) (by decide)⟩
      rw [r10, r70]
      exact z.2
end
