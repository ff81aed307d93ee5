/-! both readers: { -/
theorem nGo.eq {v : Int32} (h : ¬ isGo v) : nGo v = 0 := by
  unfold nGo
  exact if_neg h
theorem nWl.eq {v : Int32} (h : ¬ isWl v) : nWl v = 0 := by
  unfold nWl
  exact if_neg h
set_option maxHeartbeats 4000000 in
theorem st_block {N : Nat} (hN : 1000 ≤ N) {d : Int32} {B : CS} {b : RS} {t0 T n : Nat} {L : List CEL} {x : Int} {S : CS} {s U : RS} {c : CEL} {p35 : Unit × CS} {p39 : Option Nat × CS} {A : JBA} (hC : COR d B b t0 (c :: L) x S s) (hS : STO c T S s) (hT : t0 ≤ T) (hm : NMC c S) (hx : S.o c.2.1 0 = 303 → x = -1) (h43 : S.i 43 = 123) (e35 : f_X1_open N (CS.setI (CS.setI S 36 1) 24 ((S.i 24) + 1)) 123 = some p35) (e39 : f_X6_push N p35.2 301 (p35.2.i 38) (p35.2.i 50) = some p39) (g : f_X12_parse_10 N n s = some U) : (¬ p39.2.i 32 = 0 ∧ ¬ U.i 15 = 0) ∨ ∃ (m : Nat) (u : RS), f_X12_parse_10 N m u = some U ∧ NEW d B b t0 c L p39.2 u (JTR A U B b (c :: L) S s) := by
  obtain ⟨q1, q2, q3, q4, q5, q6⟩ := id hS
  have hv := hC.1
  have hin := hC.inl q1 q3
  have k10 := (tk_is hv (a := 123) (b := 123) (Or.inl ⟨by decide, by decide⟩) (by decide)).mp h43
  obtain ⟨m1, V1, hV1, g1⟩ := rl_2 g q4 hv.1.2.1 q5
  unfold f_X12_stat at hV1
  rw [if_pos k10] at hV1
  obtain ⟨-, hV1⟩ := hf_ite hV1
  rw [tp_nat q4] at hV1
  cases hV1
  have ev1 := hv.stm (t := T) (K := 3)
  obtain ⟨fz, kz⟩ := stm_r (s := s) (t := T) (v := s.i 53 + 1) (K := 3)
  obtain ⟨zS, rS⟩ := stm_z S (S.i 24 + 1)
  obtain ⟨s1, hs1⟩ : ∃ y, y = RS.setA (RS.setI s 53 ((s.i 53) + 1)) 64 T 3 := ⟨_, rfl⟩
  obtain ⟨S1, hS1⟩ : ∃ y, y = CS.setI (CS.setI S 36 1) 24 ((S.i 24) + 1) := ⟨_, rfl⟩
  have i1 : ∀ k : Nat, k ≠ 53 → s1.i k = s.i k := by
    rw [hs1]
    exact fun k h => if_neg h
  have a64 : s1.a 64 T = 3 := by
    rw [hs1]
    exact setA_at
  have a65 : s1.a 65 T = 0 := by
    rw [hs1]
    exact q6
  have aq : ∀ k : Nat, k ≠ 64 → s1.a k = s.a k := by
    rw [hs1]
    exact fun k h => setA_nk h
  have iS : ∀ k : Nat, k ≠ 36 → k ≠ 24 → S1.i k = S.i k := by
    rw [hS1]
    exact fun k h1 h2 => (ci_ne _ _ _ h2).trans (ci_ne _ _ _ h1)
  have iS36 : S1.i 36 = 1 := by
    rw [hS1, ci_ne _ _ _ (by decide), ci_at]
  have oS : S1.o = S.o ∧ S1.ol = S.ol ∧ S1.r = S.r ∧ S1.a = S.a := by
    rw [hS1]
    exact ⟨rfl, rfl, rfl, rfl⟩
  have peS : pe S1 = pe S := by rw [hS1]; rfl
  have qs : qe s1 = qe s := by rw [hs1]; rfl
  rw [← hs1] at g1 ev1 fz kz
  rw [← hS1] at e35 ev1 zS rS
  clear hs1 hS1
  have t1 : tpI s1 = (T : Int) := by
    show (s1.i 63).toInt = (T : Int)
    rw [i1 63 (by decide)]
    exact q4
  obtain ⟨m2, V2, hV2, g2⟩ := rl_3 g1 t1 ev1.1.2.1 a64
  unfold f_X12_block at hV2
  obtain ⟨-, hV2⟩ := hf_ite hV2
  rw [tp_nat t1, if_pos a65] at hV2
  obtain ⟨q, hq, hV2⟩ := hf_bind hV2
  rw [ob_id] at hV2
  rcases y_open hN ev1 (c := 123) (d := 123) (Or.inl ⟨by decide, by decide⟩) (by decide) (by decide) (by decide) e35 hq with ⟨o1, o2, o3⟩ | ⟨o1, o2, o3, o4, o5, o6, o7, o8, o9, o10, o11, o12⟩
  · refine Or.inl ⟨by rw [kF_X6_push N p35.2 301 _ _ p39 e39 o2]; exact o2, u_flt g2 (krf_f_X12_then N _ 1 1 V2 hV2 (show ¬ (RS.setA q.2 66 T (q.2.i 38)).i 15 = 0 from o3))⟩
  have tq : tpI q.2 = (T : Int) := qj_63 o4 t1
  obtain ⟨hV', t99⟩ := r_then (s := RS.setA q.2 66 T (q.2.i 38)) tq hV2
  rw [hV'] at g2
  -- the class's row
  have ckp : CKX S1 p35.2 := CKX.of o5 o10 o11
  obtain ⟨mm, hmm, m38⟩ := RWI.few o3
  have p53 : p35.2.i 53 = S.i 53 := ckp.1.2.2.2.2.1.trans (iS 53 (by decide) (by decide))
  have em : mm = c.1 + 1 := by
    have a : (p35.2.i 53).toInt = (mm : Int) := hmm
    rw [p53] at a
    have := q1.1
    omega
  obtain ⟨a, ra, psr⟩ := y_push o3.ri.s hmm (by omega) e39
  have w35 := o3.ri
  have hmm' : (p35.2.i 53).toInt = (mm : Int) := hmm
  obtain ⟨sj1, sj2, sj3, sj4, sj5, sj6⟩ := id o3.sj
  have hi := i11_hi o3
  obtain ⟨zR, r53, r54, r55, r52, r21, r44⟩ := psr.z hmm' (by omega) ⟨sj1, by omega⟩
  obtain ⟨⟨b1, b2, b3⟩, j1, ⟨j53, j54⟩, rr1, rr2, rw3, nb, ob1, ⟨f0, f1, f3, fl⟩, ⟨f5, f6, f7, f8⟩, ⟨f9, f10, f11, f12, f14⟩⟩ := id psr
  have es : (cnI p35.2).toNat = mm := by
    show (p35.2.i 53).toInt.toNat = mm
    rw [hmm']
    exact Int.toNat_natCast _
  have nr := w35.2.2.2.1.2
  have iq := w35.2.2.2.2.1
  have wc := w35.2.2.2.2.2.1
  rw [es] at nr iq wc
  have rsq := psr.rsq (by omega)
  obtain ⟨u1, u2, u3, u4, u5⟩ := rsq.put nr rr1
  obtain ⟨iq2, wc2⟩ := iq.block rsq nr rr1 f0
  have sg : SGS p35.2 mm + 1 ≤ sgI p35.2 := by
    have z := ckp.sum ev1.ri
    rw [es] at z
    rw [z.1]
    have y := ev1.ri.2.2.2.2.2.2
    have x1 := ev1.2.2.1.1
    have x2 := o3.2.2.1.1
    unfold sgI at *
    rw [x1] at y
    rw [x2, o12]
    omega
  have sgn1 : sgn p39.2 a = 1 := by
    unfold sgn
    rw [if_neg (by rw [f0]; decide), if_pos (Or.inl f0)]
  have e44 : eI p39.2 = eI p35.2 := by
    unfold eI plI
    rw [j1 44 (by decide) (by decide), j1 43 (by decide) (by decide)]
  have e34 : sgI p39.2 = sgI p35.2 := by
    unfold sgI
    rw [j1 34 (by decide) (by decide)]
  have wR : RWI p39.2 := psr.ri w35 hmm' (by omega) iq2 (by rw [wc2, e44]; exact wc) (by rw [u2, sgn1, e34]; omega)
  -- rates
  have T21 := hC.2.2.2.2.2.2.2.2.1
  have p21 : p35.2.i 21 = S.i 21 := (pj_21 o5).trans (iS 21 (by decide) (by decide))
  have p54 : p35.2.i 54 = S.i 54 := (pj_54 o5).trans (iS 54 (by decide) (by decide))
  have l11 : (s.i 11).toInt + 1 ≤ (q.2.i 11).toInt := by
    rw [i1 11 (by decide)] at o7
    exact o7
  have evR : ENV d p39.2 q.2 := o3.psh psr wR (by rw [p54]; omega)
  obtain ⟨u, hu⟩ : ∃ y, y = TH (RS.setA q.2 66 T (q.2.i 38)) T 1 1 := ⟨_, rfl⟩
  have evu : ENV d p39.2 u := by rw [hu]; exact (setA_env (Or.inr (by omega)) evR).th
  have fu : FRB T q.2 u := by rw [hu]; exact (setA_frb (Or.inr ⟨by omega, by omega, Nat.le_refl _⟩)).tr TH.frb
  have ku : TBK q.2 u := by rw [hu]; exact (setA_tbk (by omega)).tr TH.tbk
  have iu : ∀ k : Nat, k ≠ 63 → u.i k = q.2.i k := by
    rw [hu]
    exact fun k h => if_neg h
  have u64 : u.a 64 T = 3 := by
    rw [hu, TH.fk0 (Nat.le_refl T)]
    show (RS.setA q.2 66 T (q.2.i 38)).a 64 T = 3
    rw [show (RS.setA q.2 66 T (q.2.i 38)).a 64 T = q.2.a 64 T from rfl, ((FRB.of o4 : FRB (T + 1) s1 q.2) T (by omega)).1]
    exact a64
  have u65 : u.a 65 T = 1 := by rw [hu]; exact TH.st
  have u66 : u.a 66 T = q.2.i 38 := by
    rw [hu]
    show (RS.setA q.2 66 T (q.2.i 38)).a 66 T = q.2.i 38
    exact setA_at
  have u641 : u.a 64 (T + 1) = 1 := by rw [hu]; exact TH.fk
  have u651 : u.a 65 (T + 1) = 0 := by rw [hu]; exact TH.fs
  have tu : tpI u = ((T + 1 : Nat) : Int) := by rw [hu]; exact TH.tp (u := RS.setA q.2 66 T (q.2.i 38)) tq (by omega)
  have pa : u.a 60 = q.2.a 60 ∧ u.a 61 = q.2.a 61 ∧ u.a 62 = q.2.a 62 := by
    rw [hu]
    exact ⟨rfl, rfl, rfl⟩
  have qu : qe u = qe q.2 := by rw [hu]; rfl
  rw [← hu] at g2
  clear hu hV'
  have q17 : (q.2.i 17).toInt = (s.i 17).toInt + 1 := by rw [o6, t17_up (N := N) ev1, i1 17 (by decide)]
  have pq : phI u = phI s + 3 := by
    unfold phI
    rw [iu 17 (by decide), iu 20 (by decide), o8, q17, i1 20 (by decide)]
    omega
  have tbq : TBK s u := (kz.tr (TBK.of o4 (by rw [o8]; exact Int.le_refl _) (fun j _ => by rw [o9]))).tr ku
  have fq : FRB T s u := (fz.tr (FRB.of o4)).tr fu
  obtain ⟨y1, y2, y3, y4, y5, y6, y7, y8, y9, y10⟩ := tbq.1.1
  have ckall : CKZ S p39.2 := by
    obtain ⟨c1, c2, c3, c4, c5, c6, c7, c8⟩ := zS
    obtain ⟨d1, d2, d3, d4, d5, d6, d7, d8⟩ := ckp.z
    obtain ⟨g1', g2', g3', g4', g5', g6', g7', g8'⟩ := zR
    have e53 : S1.i 53 = S.i 53 := iS 53 (by decide) (by decide)
    have e55 : p35.2.i 55 = S.i 55 := by
      have z := (pj_eq o5).2.2.2.2.2.2.2.2.2.2.2.2.2.2.2.2.1
      exact z.trans (iS 55 (by decide) (by decide))
    refine ⟨(g1'.trans d1).trans c1, fun k hk => ((g2' k (by rw [p53]; exact hk)).trans (d2 k (by rw [e53]; exact hk))).trans (c2 k hk), fun k a hk ha => ?_, fun k hk => ?_, by rw [p54] at g5'; exact g5', by rw [e55] at g6'; exact g6', fun k hk => ?_, fun k k1 k2 => ?_⟩
    · have e := c3 k a hk ha
      have e2 := d3 k a (by rw [e53]; exact hk) ((c2 k hk).trans ha)
      have e3 := g3' k a (by rw [p53]; exact hk) ((d2 k (by rw [e53]; exact hk)).trans ((c2 k hk).trans ha))
      exact ⟨(e3.1.trans e2.1).trans e.1, (e3.2.trans e2.2).trans e.2⟩
    · have i22 : S1.i 22 = S.i 22 := iS 22 (by decide) (by decide)
      exact ((g4' k (by rw [d1, i22]; exact hk)).trans (d4 k (by rw [i22]; exact hk))).trans (c4 k hk)
    · have i55 : S1.i 55 = S.i 55 := iS 55 (by decide) (by decide)
      exact ((g7' k (by rw [e55]; exact hk)).trans (d7 k (by rw [i55]; exact hk))).trans (c7 k hk)
    · rw [r55, e55] at k2
      omega
  have eo := (hin.o ckall c List.mem_cons_self).1
  have low : LOW p39.2 u c := q2.mv eo fq (by omega)
  have ng : ¬ isGo (p39.2.o a 0) := by
    unfold isGo
    rw [f0]
    decide
  have nt : ¬ isTy (p39.2.o a 0) := by
    unfold isTy
    rw [f0]
    decide
  have nw : ¬ isWl (p39.2.o a 0) := by
    unfold isWl
    rw [f0]
    decide
  have no1 : ¬ isOne (p39.2.o a 0) := by
    unfold isOne
    rw [f0]
    decide
  have wd : wid (p39.2.o a 0) = 2 := by
    rw [f0]
    rfl
  have dp0 : nDp (p39.2.o a 0) = 0 := by
    rw [f0]
    rfl
  have db0 : dbt (p39.2.o a 0) = 0 := by
    rw [f0]
    rfl
  obtain ⟨x59, x60, x61, x62, -⟩ := qj_p o4
  have jq := hC.2.2.1
  obtain ⟨-, -, -, -, -, -, j7, -⟩ := jq
  obtain ⟨k1, k2, k3, k4, k5⟩ := j7 c List.mem_cons_self
  have p55 : p35.2.i 55 = S.i 55 := ((pj_eq o5).2.2.2.2.2.2.2.2.2.2.2.2.2.2.2.2.1).trans (iS 55 (by decide) (by decide))
  have p50 : p35.2.i 50 = S.i 50 := ckp.1.2.2.2.1.trans (iS 50 (by decide) (by decide))
  have p38 : p35.2.i 38 = S.i 38 := ckp.1.2.2.1.trans (iS 38 (by decide) (by decide))
  have p56 : p35.2.i 56 = S.i 56 := ckp.1.2.2.2.2.2.trans (iS 56 (by decide) (by decide))
  have p36 : p35.2.i 36 = 1 := ckp.1.2.1.trans iS36
  have o1i : (p39.2.o a 1).toInt = (S.i 54).toInt + 1 := by
    rw [f1, ← j54, r54, p54]
  have iar : IAR p39.2 u := by
    obtain ⟨⟨z1, z2⟩, z3⟩ := hC.2.2.2.2.2.2.2.2.2.1
    have e56 : p39.2.i 56 = S.i 56 := (j1 56 (by decide) (by decide)).trans p56
    unfold IAR
    rw [e56, y5]
    refine ⟨⟨fun z => ?_, fun z => ?_⟩, fun z => ?_⟩
    · obtain ⟨g, w1, w2⟩ := z1 z
      exact ⟨g, w1, (tbq.1.2.2.1 g w1).1.trans w2⟩
    · obtain ⟨g, w1, w2⟩ := z
      exact z2 ⟨g, w1, (tbq.1.2.2.1 g w1).1.symm.trans w2⟩
    · obtain ⟨w1, w2, a', w3⟩ := z3 z
      exact ⟨by rw [r53, p53]; omega, w2, a', (ckall.2.1 _ (by omega)).trans w3⟩
  have lb : LBC p39.2 u (c :: L) (-1) := by
    have z := hC.2.2.2.1
    have z2 : LBC S s (c :: L) (-1) := by
      by_cases w : S.o c.2.1 0 = 303
      · rw [hx w] at z
        exact z
      · exact z.no w
    exact LBC.mv (c :: L) (-1) z2 (fun y hy => (hin.o ckall y hy).1) (fun y hy w => (tbq.1.2.2.1 (ceG y) ((hin y hy).2.2.2.1 (Or.inl w))).2.2.1)
  obtain ⟨c1, hc1⟩ : ∃ c1 : CEL, c1 = (c.1 + 1, a, T, ceG c + nGo (S.o c.2.1 0), ceW c + nWl (S.o c.2.1 0)) := ⟨_, rfl⟩
  have v1 : c1.1 = c.1 + 1 := by rw [hc1]
  have v2 : c1.2.1 = a := by rw [hc1]
  have v3 : ceT c1 = T := by rw [hc1]; rfl
  have v4 : ceG c1 = ceG c + nGo (S.o c.2.1 0) := by rw [hc1]; rfl
  have v5 : ceW c1 = ceW c + nWl (S.o c.2.1 0) := by rw [hc1]; rfl
  clear hc1
  have rte : RTE S p39.2 := by
    have z44 : S.i 44 = s.i 11 := hv.1.2.2.2.1.1
    have z45 : p39.2.i 44 = u.i 11 := evu.1.2.2.2.1.1
    unfold RTE
    rw [z44, z45, r21, p21, r54, p54, r55, p55, iu 11 (by decide)]
    omega
  have u11 : u.i 11 = q.2.i 11 := iu 11 (by decide)
  have hcol : ∃ col : Nat → Option (Nat × Bool), COL p39.2 u (c1 :: c :: L) col (b.i 20).toInt := by
    obtain ⟨-, -, b0, col, hc⟩ := hC.2.2.2.2.2.2.2.2.2.2
    refine ⟨col, (hc.mv b0 hin ckall fq tbq.1.r tbq.2).add ?_ ?_ ?_⟩
    · rw [v2]
      exact ng
    · rw [v2, f0]
      decide
    · intro k z
      unfold PLF at z
      rw [v2, f0] at z
      rcases z with ⟨z | z, -⟩ | ⟨z, -⟩ | ⟨z | z, -⟩ <;> exact absurd z (by decide)
  have nms := o3.2.1.1
  have e52 : p35.2.a 52 = S.a 52 := by
    rw [(pj_eq o5).2.2.2.2.2.2.2.2.2.2.2.2.2.2.2.2.2.2.2.2.2.2.1, oS.2.2.2]
  refine Or.inr ⟨m2, u, g2, c1, hC.push hin hT evu fq tbq.1.r tbq.2 ⟨y1, y2, y3, y8, y9, y10⟩ (by rw [y5]; exact Int.le_refl _) (by rw [y7]; exact Int.le_refl _) ckall hC.2.2.1 hin (fun y hy => (hin.o ckall y hy).1) fq (fun y hy z v => by
    have w := tbq.1.2.2.1 (ceG y) ((hin y hy).2.2.2.1 z)
    unfold flg
    rw [w.2.2.2.2.1, w.2.2.2.2.2.1]) hC.jp.1 hC.jp.2 (by rw [r54, p54]) (r55.trans p55) (r52.trans e52) ?_ (by rw [r53, p53]; omega) rte ⟨by rw [u11]; omega, by rw [v2, db0]; omega, by rw [iu 17 (by decide)]; omega, by rw [v2, f0, iu 19 (by decide)]; show (q.2.i 19).toInt = (s.i 19).toInt + 1; rw [o12, i1 19 (by decide)]⟩ (by rw [r54, p54, u11]; omega) (by rw [r21, p21, u11]; omega) (by rw [y4, u11]; omega) (by rw [y4]; exact Int.le_refl _) ((iu 59 (by decide)).trans (x59.trans (i1 59 (by decide)))) (pa.1.trans (x60.trans (aq 60 (by decide)))) (pa.2.1.trans (x61.trans (aq 61 (by decide)))) (pa.2.2.trans (x62.trans (aq 62 (by decide)))) (CST.pl (by rw [v1, v2, ← em]; exact rr1) (by rw [v1]; omega) (by rw [v2, v3]; exact RFR.m301 f0 ⟨⟨u64, u65, u641⟩, by rw [u66, f3]; exact nms.symm⟩) (by rw [v2, f0]; decide) (by rw [v2]; exact nt)) ⟨v1, by rw [v3, eo]; exact q3, by rw [v4, eo], by rw [v5, eo], by rw [v2, eo, o1i]; omega, by rw [v2, eo, f14, p55]; exact k4, fun w => by rw [v2, eo, f14, p55]; rw [eo] at w; exact (k5 w).2, fun w1 w2 w3 => by rw [v2, eo, f3, p50]; rw [eo] at w1 w2 w3; exact hm w1 w2 w3, by rw [v2, f0]; unfold isKS isOne isTy; decide⟩ low ?_ iar hcol (by rw [v2]; exact o1i) (by rw [v2, f14]; exact p55) (by rw [v2, f0]; decide) (fun w => absurd w (by rw [v2]; exact ng)) (fun w => absurd w (by rw [v2]; exact nt)) ((j1 56 (by decide) (by decide)).trans p56) (by rw [v2, f3]; exact p50), ⟨?_, ?_, ?_⟩, ⟨Or.inl ⟨by rw [v2]; exact no1, by rw [v2, f0]; decide, ?_, ?_, Or.inl ⟨?_, ?_⟩, fun w => absurd w (by rw [v2, f0]; decide)⟩, Or.inr ?_⟩, fun _ jw => ?_⟩
  · rw [v2, dp0, j1 38 (by decide) (by decide), p38]
    omega
  · unfold LBC
    rw [v2, if_neg (by rw [f0]; decide), if_neg (by rw [f0]; decide)]
    exact lb
  · rw [r53, p53, v1]
    have := q1.1
    omega
  · rw [v2, v4, nGo.eq ng, y5, q1.2.1]
    omega
  · rw [v2, v5, nWl.eq nw, y7, q1.2.2]
    omega
  · rw [v2, v3, wd, tu]
    omega
  · rw [v2, v3, wd]
    exact u641
  · rw [v2, v3, wd]
    exact u651
  · exact (j1 36 (by decide) (by decide)).trans p36
  · exact (j1 36 (by decide) (by decide)).trans p36
  · have veq : vws p39.2 u (c :: L) = vws S s (c :: L) := vws.eq (T := T) ((NMV.tbk tbq).2) (c :: L) hC.o3 (fun r hr => (hin.o ckall r hr).1) fq (fun r hr => by
      have z1 := (hin r hr).2.2.1
      have z3 := wid1 (S.o r.2.1 0)
      omega)
    show JRW A U B b (vw p39.2 u c1 :: vws p39.2 u (c :: L)) p39.2 u
    rw [veq]
    obtain ⟨z1, z2, z3, z4, -, z6⟩ := tok_cd ev1 o3 o5 (ke_X1_open N S1 123 p35 e35) (kre_f_X12_open N s1 123 q hq) o7
    have kp := ke_X6_push N p35.2 301 _ _ p39 e39
    have cS : CD1 (-0) (-0) S S1 := CD1.pe (b := 0) peS (iS 21 (by decide) (by decide)) (iS 50 (by decide) (by decide)) (by rw [oS.2.2.2]) (by rw [oS.2.2.2]) (by rw [iS 44 (by decide) (by decide)]; omega)
    have cP : CD1 (-0) (-0) p35.2 p39.2 := CD1.pe (b := 0) kp (j1 21 (by decide) (by decide)) (j1 50 (by decide) (by decide)) (by rw [b1]) (by rw [b1]) (by rw [j1 44 (by decide) (by decide)]; omega)
    exact jw.psh (r := vw p39.2 u c1) (show p39.2.o c1.2.1 0 = 301 by rw [v2]; exact f0) ((cS.tr z1).tr cP) (by omega) (by omega) (fun a b => ((CT7.eq (by rw [oS.2.2.2])).tr (z2 a b)).tr (CT7.eq (pe_eq kp).2.2.2.1)) (fun k => ((CD2.qe qs).tr (z3 k)).tr (CD2.qe qu)) ((pe_eq kp).1.trans (z4.trans (iS 20 (by decide) (by decide)))) ((qe_eq qu).1.1.trans (z6.trans (i1 20 (by decide)))) hv.2.1.1 (NMV.tbk tbq) ((j1 36 (by decide) (by decide)).trans p36) (GKP.tbk tbq) (by rw [u11]; omega) (by rw [iu 19 (by decide), o12, i1 19 (by decide)]; omega) (vws.pl1 hC v1)
