/-! both readers: do -/
set_option maxHeartbeats 4000000 in
theorem st_do {N : Nat} (hN : 1000 ≤ N) {d : Int32} {B : CS} {b : RS} {t0 T n : Nat} {L : List CEL} {x : Int} {S : CS} {s U : RS} {c : CEL} {p R : Unit × CS} {A : JBA} (hC : COR d B b t0 (c :: L) x S s) (hS : STO c T S s) (hT : t0 ≤ T) (hm : NMC c S) (hx : S.o c.2.1 0 = 303 → x = -3) (hB : BOT b S (c :: L)) (h43 : S.i 43 = 206) (e1 : f_X0_add N (CS.setI (CS.setI S 36 1) 24 ((S.i 24) + 1)) 51 0 = some p) (e : f_X7_beginDo N p.2 = some R) (g : f_X12_parse_10 N n s = some U) : (¬ R.2.i 32 = 0 ∧ ¬ U.i 15 = 0) ∨ DMD d B R.2 U ∨ ∃ (m : Nat) (u : RS), f_X12_parse_10 N m u = some U ∧ NEW d B b t0 c L R.2 u (JTR A U B b (c :: L) S s) := by
  obtain ⟨q1, q2, q3, q4, q5, q6⟩ := id hS
  have hv := hC.1
  have k10 := (tk_is hv (a := 206) (b := 416) (Or.inr ⟨by decide, by decide⟩) (by decide)).mp h43
  obtain ⟨m1, s1, g1, w0, a64, a65, i43, i10, ph3, i21, i11, jst⟩ := st_gj hC hS k10 (Or.inr (Or.inr (Or.inl ⟨rfl, rfl⟩))) (by decide) e1 g
  have t21 := hC.2.2.2.2.2.2.2.2.1.1
  have q54 := hC.2.2.2.2.2.2.2.2.1.2.2
  -- the class, taken apart
  unfold f_X7_beginDo at e
  obtain ⟨x1, ex1, e⟩ := hf_bind e
  obtain ⟨x5, ex5, e⟩ := hf_bind e
  obtain ⟨x9, ex9, e⟩ := hf_bind e
  obtain ⟨pp, a, epp, ra, hx9⟩ := pl_in ex9
  rw [hx9] at e
  have e' : ((f_X0_newTarget N (CS.setO (CS.setO pp.2 a 10 x1.1) a 9 x5.1)).bind fun p19 => if oK p19.2 a 0 then (f_X9_advance N (CS.setO p19.2 a 11 p19.1)).bind fun p24 => if oK p24.2 a 0 then (f_X0_aim N p24.2 (CS.o p24.2 a 11)).bind fun p29 => (f_X0_add N p29.2 51 0).bind fun p33 => some ((), p33.2) else none else none) = some R := e
  obtain ⟨x19, ex19, e'⟩ := hf_bind e'
  obtain ⟨-, e'⟩ := hf_ite e'
  obtain ⟨x24, ex24, e'⟩ := hf_bind e'
  obtain ⟨-, e'⟩ := hf_ite e'
  obtain ⟨x29, ex29, e'⟩ := hf_bind e'
  obtain ⟨x33, ex33, e'⟩ := hf_bind e'
  cases e'
  show (¬ x33.2.i 32 = 0 ∧ ¬ U.i 15 = 0) ∨ DMD d B x33.2 U ∨ ∃ (m : Nat) (u : RS), f_X12_parse_10 N m u = some U ∧ NEW d B b t0 c L x33.2 u (JTR A U B b (c :: L) S s)
  have w1 := w0.nt (by rw [i21, i11]; omega) ex1
  have w2 := w1.nt (by have := w1.2.2.2.2.2.2.2.1; rw [i11] at this ⊢; omega) ex5
  have n21 := w2.2.2.2.2.2.2.2.1
  have n54 := w2.2.2.2.2.2.2.2.2.1
  rw [i11] at n21 n54
  -- the row
  obtain ⟨m, hmm, m38⟩ := RWI.few w2.1
  have hm' : (x5.2.i 53).toInt = (m : Int) := hmm
  obtain ⟨a', ra', psr⟩ := y_push w2.1.ri.s hmm (by omega) epp
  have ea : a' = a := by
    rw [ra] at ra'
    cases ra'
    rfl
  rw [ea] at psr
  obtain ⟨sj1, sj2, sj3, sj4, sj5, sj6⟩ := id w2.1.sj
  have hi := i11_hi w2.1
  have sq0 := psr.sq hm' m38 ⟨sj1, by omega⟩
  have sq1 := (((sq0.so (k := 10) (w := x1.1) ⟨by decide, by decide, by decide, by decide⟩).so (k := 9) (w := x5.1) ⟨by decide, by decide, by decide, by decide⟩).nt ex19).so (k := 11) (w := x19.1) ⟨by decide, by decide, by decide, by decide⟩
  have f5 := psr.2.2.2.2.2.2.2.2.2.1.1
  have ji := psr.2.1
  have ni := nt_i ex19
  have n17 : ∀ k : Nat, k ≠ 21 → x19.2.i k = pp.2.i k := fun k hk => by
    unfold f_X0_newTarget at ex19
    cases ex19
    exact if_neg hk
  have na : ∀ k : Nat, k ≠ 17 → x19.2.a k = pp.2.a k := fun k hk => by
    unfold f_X0_newTarget at ex19
    cases ex19
    exact if_neg hk
  have nr : x19.2.r = pp.2.r ∧ x19.2.b = pp.2.b ∧ x19.2.l = pp.2.l ∧ x19.2.L = pp.2.L ∧ x19.2.k = pp.2.k ∧ x19.2.hs = pp.2.hs ∧ x19.2.ol = pp.2.ol ∧ (∀ b : Nat, x19.2.o b = (CS.setO (CS.setO pp.2 a 10 x1.1) a 9 x5.1).o b) := by
    unfold f_X0_newTarget at ex19
    cases ex19
    exact ⟨rfl, rfl, rfl, rfl, rfl, rfl, rfl, fun _ => rfl⟩
  have X21 : (x19.2.i 21).toInt = (x5.2.i 21).toInt + 1 := by
    rw [ni.2.2.2.2.2]
    show (pp.2.i 21 + 1).toInt = _
    rw [ji 21 (by decide) (by decide)]
    have := w2.1.t21
    exact ad1 this.1 (by omega)
  obtain ⟨X, hX⟩ : ∃ X, X = CS.setO x19.2 a 11 x19.1 := ⟨_, rfl⟩
  have Xi : ∀ k : Nat, X.i k = x19.2.i k := by
    rw [hX]
    exact fun _ => rfl
  have Xa : X.a = x19.2.a := by rw [hX]; rfl
  have Xr : X.r = x19.2.r ∧ X.b = x19.2.b ∧ X.l = x19.2.l ∧ X.L = x19.2.L ∧ X.k = x19.2.k ∧ X.hs = x19.2.hs ∧ X.ol = x19.2.ol := by rw [hX]; exact ⟨rfl, rfl, rfl, rfl, rfl, rfl, rfl⟩
  have Xo : ∀ b : Nat, X.o b 0 = pp.2.o b 0 := fun b => by
    rw [hX, so_nk (by decide), nr.2.2.2.2.2.2.2 b, so_nk (by decide), so_nk (by decide)]
  have Xo5 : X.o a 5 = 0 := by
    rw [hX, so_nk (by decide), nr.2.2.2.2.2.2.2 a, so_nk (by decide), so_nk (by decide)]
    exact f5
  have peX : pe X = pe x19.2 := by rw [hX]; rfl
  have oX11 : X.o a 11 = x19.1 := by rw [hX]; exact so_at
  have oX9 : X.o a 9 = x5.1 := by rw [hX, so_nk (by decide), nr.2.2.2.2.2.2.2 a]; exact so_at
  have oX10 : X.o a 10 = x1.1 := by rw [hX, so_nk (by decide), nr.2.2.2.2.2.2.2 a, so_nk (by decide)]; exact so_at
  have oX2 : X.o a 2 = x5.2.i 38 := by rw [← psh_o2 epp ra, hX, so_nk (by decide), nr.2.2.2.2.2.2.2 a, so_nk (by decide), so_nk (by decide)]
  rw [← hX] at ex24 sq1
  clear hX
  obtain ⟨⟨pa, pb, pl⟩, -, ⟨p53, p54⟩, -⟩ := id psr
  have X54 : (X.i 54).toInt = (x5.2.i 54).toInt + 1 := by
    rw [Xi 54, n17 54 (by decide), p54]
    exact ad1 sj1 (by omega)
  have ew : ENW d X s1 := by
    refine w2.1.w.gx (fun j h1 _ _ h4 h5 _ _ => ?_) ⟨?_, ?_, ?_⟩ ?_ ?_ ?_ ?_
    · rw [Xi j, n17 j h1, ji j h4 h5]
    · rw [Xa, na 0 (by decide), pa]
    · rw [Xa, na 9 (by decide), pa]
    · rw [Xa, na 49 (by decide), pa]
    · rw [Xr.2.1, nr.2.1, pb]
    · rw [Xr.2.2.1, nr.2.2.1, pl]
    · unfold SJB
      rw [X54, Xi 55, n17 55 (by decide), ji 55 (by decide) (by decide), Xi 38, n17 38 (by decide), ji 38 (by decide) (by decide)]
      rw [i11] at sj2 sj4 ⊢
      omega
    · rw [Xi 21, X21]
      have := w2.1.t21
      rw [i11] at this ⊢
      omega
  have X43 : X.i 43 = 206 := by
    rw [Xi 43, n17 43 (by decide), ji 43 (by decide) (by decide), (nt_i ex5).2.1, (nt_i ex1).2.1, i43, h43]
  -- the reference
  obtain ⟨m2, V, hV, g2⟩ := rl_11 g1 w0.2.1 w0.1.1.2.1 a64
  unfold f_X12_repeats at hV
  obtain ⟨-, hV⟩ := hf_ite hV
  rw [tp_nat w0.2.1, if_pos a65] at hV
  obtain ⟨q, hq, hV⟩ := hf_bind hV
  obtain ⟨em, hem, hV⟩ := hf_bind hV
  obtain ⟨G, hG, hV⟩ := hf_bind hV
  rw [ob_id] at hV
  obtain ⟨v1, v2, v3, v4, v5, v6, v7, v8, v9, v10, v11, v12⟩ := ew.adv hN (by rw [X43]; decide) ex24 hq
  obtain ⟨-, -, -, -, -, -, -, -, -, -, -, -, y38, y50, y53, y54, y55, y56, -, -, -, -, y52, yr, yo, yol, -, y21, ⟨yh, yL, yk⟩⟩ := pj_eq v3
  have gain := ADV.gain ew.1.2.2.2.2.2.2.1 v11
  have tw : 200 ≤ (X.i 43).toInt := by rw [X43]; decide
  have gw := gain.2.2.2.2.1 (Or.inl tw)
  have plX : plI X = (s1.i 11).toInt := by
    show (X.i 44).toInt = _
    rw [ew.1.2.2.2.1.1]
  have pl24 : plI x24.2 = (q.i 11).toInt := by
    show (x24.2.i 44).toInt = _
    rw [v1.1.2.2.2.1.1]
  have rw24 : RWI x24.2 := by
    refine psr.late w2.1.ri hm' (by omega) ⟨by decide, by decide, by decide, by decide⟩ (by rw [yr, Xr.1, nr.1]) (by rw [yL, Xr.2.2.2.1, nr.2.2.2.1]) (by rw [yk, Xr.2.2.2.2.1, nr.2.2.2.2.1]) (by rw [yh, Xr.2.2.2.2.2.1, nr.2.2.2.2.2.1]) (by rw [y53, Xi 53, n17 53 (by decide)]) (fun b => ⟨by rw [yo, Xo b], by rw [yol, Xr.2.2.2.2.2.2, nr.2.2.2.2.2.2.1]⟩) ?_ ?_
    · have z1 := w2.1.ri.2.2.2.2.2.1
      have es : (cnI x5.2).toNat = m := by
        show (x5.2.i 53).toInt.toNat = m
        rw [hm']
        exact Int.toNat_natCast _
      rw [es] at z1
      have al : ALN (x5.2.i 43) := Or.inr (by rw [(nt_i ex5).2.1, (nt_i ex1).2.1, i43, h43]; decide)
      rw [eI.al al] at z1
      have z2 : plI x5.2 = (s1.i 11).toInt := by
        show (x5.2.i 44).toInt = _
        rw [w2.1.1.2.2.2.1.1]
      omega
    · have z1 := w2.1.ri.2.2.2.2.2.2
      have es : (cnI x5.2).toNat = m := by
        show (x5.2.i 53).toInt.toNat = m
        rw [hm']
        exact Int.toNat_natCast _
      rw [es] at z1
      have e34 : sgI x24.2 = sgI x5.2 := by
        unfold sgI
        rw [v1.2.2.1.1, w2.1.2.2.1.1, v10]
      rw [e34, if_neg (by decide), if_neg (by decide)]
      omega
  have ev24 : ENV d x24.2 q := v1.v rw24
  have kk : pj2 x33.2 = pj2 x24.2 := (kd_X0_add N x29.2 51 0 x33 ex33).trans (kd_X0_aim N x24.2 _ x29 ex29)
  have ev33 : ENV d x33.2 q := ev24.kd kk
  have sq2 : PSQ x5.2 x24.2 a m 206 (x5.2.i 50) := sq1.cx (by omega) (CKX.of v3 v8 v9) (pj_54 v3) y55 y52
  have sq3 := sq2.kd (by omega) kk
  -- the reference, before its goal
  have tq : tpI q = (T : Int) := qj_63 v2 w0.2.1
  have phq : phI q = phI s1 + 3 := by
    unfold phI
    rw [v6, v12]
    omega
  have ph1 := w0.2.2.2.2.2.2.1.2.1
  obtain ⟨n1, n2, n3, n4, n5, n6, n7, n8, n9, n10', n11'⟩ := y_emit ev33 tq (by omega) hem
  have qjm := (qj2_eq (em_env ev33 (by omega) hem).2.2.1).1
  obtain ⟨z59, z60, z61, z62, -⟩ := qj_p qjm
  obtain ⟨o59, o60, o61, o62, -⟩ := qj_p v2
  have kp := pj_eq (pj2_eq kk).1
  have x3321 : x33.2.i 21 = X.i 21 := (pj_21 (pj2_eq kk).1).trans y21
  have x3338 : x33.2.i 38 = x5.2.i 38 := by
    rw [kp.2.2.2.2.2.2.2.2.2.2.2.2.1, y38, Xi 38, n17 38 (by decide), ji 38 (by decide) (by decide)]
  have o5X : x33.2.o a 5 = 0 := by
    rw [kp.2.2.2.2.2.2.2.2.2.2.2.2.2.2.2.2.2.2.2.2.2.2.2.2.1, yo]
    exact Xo5
  obtain ⟨zX, ⟨r53, r54, -, -⟩, ⟨r50, -, -⟩, -, ⟨g0, -, g3', -⟩, -⟩ := id sq3
  have i50 := w2.2.2.2.2.2.1.2.1
  have fs1 : FRB T s1 (RS.setA em.2 66 T em.1) := ((FRB.of v2).tr (n3 T)).tr (setA_frb (Or.inr ⟨by omega, by omega, Nat.le_refl _⟩))
  have ts1 : TBK s1 (RS.setA em.2 66 T em.1) := ((TBK.of v2 (by rw [v6]; exact Int.le_refl _) (fun j _ => by rw [v7])).tr n4).tr (setA_tbk (by omega))
  have q64 : (RS.setA em.2 66 T em.1).a 64 T = 11 := by
    show em.2.a 64 T = 11
    rw [(n3 (T + 1) T (by omega)).1, ((FRB.of v2 : FRB (T + 1) s1 q) T (by omega)).1]
    exact a64
  have e11 : (RS.setA em.2 66 T em.1).i 11 = q.i 11 := n8
  have e17 : (RS.setA em.2 66 T em.1).i 17 = q.i 17 := n9
  have eph : phI (RS.setA em.2 66 T em.1) = phI q - 1 := n5
  have i11' : (s1.i 11).toInt = (s.i 11).toInt := by rw [i11]
  refine Or.inr (lp_tail hC q1 q2 q3 hT hm hx hB (w2.z (by omega)) (by omega) (Or.inr (Or.inl rfl)) sq3 (g3'.trans i50) x3338 o5X (fun _ => r50.trans g3'.symm) fs1 ts1.t9 n2 (setA_env (Or.inr (by omega)) n1) hG (Or.inl rfl) hV g2 ⟨by rw [e11]; omega, ?_, by rw [e17]; omega, ?_⟩ (by rw [x3321, Xi 21, X21, e11]; omega) (by rw [r54, e11]; omega) ⟨?_, ?_, ?_, ?_⟩ (fun u g w hu h1 h2 h3 => ?_) (fun u c1 k h1 h2 hu h3 => ?_) (fun u' c1 v2' v3' qu un uj uf R36 lpf pls ku jw => ?_))
  · show phI s + 0 ≤ phI (RS.setA em.2 66 T em.1)
    rw [eph]
    omega
  · show (em.2.i 19).toInt = (s.i 19).toInt
    have z9 := w2.2.2.2.2.2.2.1.2.2.2
    rw [n10', v10]
    omega
  · show em.2.i 59 = s1.i 59
    rw [z59, o59]
  · show em.2.a 60 = s1.a 60
    rw [z60, o60]
  · show em.2.a 61 = s1.a 61
    rw [z61, o61]
  · show em.2.a 62 = s1.a 62
    rw [z62, o62]
  · exact RFR.m206 g0 ⟨(hu 64 (by decide) (by decide) (by decide) (by decide)).trans q64, h1, h2, h3⟩
  · exfalso
    unfold PLF at h3
    rw [h1, g0] at h3
    rcases h3 with ⟨z | z, -⟩ | ⟨z, -⟩ | ⟨z | z, -⟩ <;> exact absurd z (by decide)
  · have hin := hC.inl q1 q3
    have ckall : CKZ S x33.2 := w2.2.2.2.2.1.tr w2.2.2.2.2.2.1.2.2.1 zX
    have veq : vws x33.2 u' (c :: L) = vws S s (c :: L) := vws.eqf (T := T) (uf.2) (c :: L) hC.o3 (fun y hy => (hin.o ckall y hy).1) (fun k t h1 h2 h3 => (uf.1 k t h1 h2 h3).trans ((w2.2.2.1.tr fs1).fld k t h1 h2 h3)) (fun y hy => by
      have z1 := wid1 (S.o y.2.1 0)
      have z2 := (hin y hy).2.2.1
      omega)
    show JRW A U B b (vw x33.2 u' c1 :: vws x33.2 u' (c :: L)) x33.2 u'
    rw [veq] at pls ⊢
    have kpp := ke_X6_push N x5.2 206 _ _ pp epp
    have kq : TBK s1 q := TBK.of v2 (by rw [v6]; exact Int.le_refl _) (fun j _ => by rw [v7])
    have qq := kre_f_X12_next N s1 q hq
    have ke24 := ke_X9_advance N X x24 ex24
    have o33 : x33.2.o = X.o := by rw [kp.2.2.2.2.2.2.2.2.2.2.2.2.2.2.2.2.2.2.2.2.2.2.2.2.1, yo]
    have ex29' : f_X0_aim N x24.2 x19.1 = some x29 := by
      have z : CS.o x24.2 a 11 = x19.1 := by rw [yo]; exact oX11
      rw [z] at ex29
      exact ex29
    obtain ⟨-, -, -, -, -, -, -, -, -, -, -, -, -, j50, -, -, -, -, -, -, b48, b49, -, -, -, -, -, j21, -⟩ := pj_eq v3
    have X44 : X.i 44 = x19.2.i 44 := Xi 44
    have hi24 := (i11_hi ev24).2
    have p24 : (x24.2.i 44).toInt = (q.i 11).toInt := by rw [ev24.p44.1]
    have t43 : x33.2.i 43 = x24.2.i 43 := by
      unfold f_X0_add at ex33
      cases ex33
      unfold f_X0_aim at ex29
      cases ex29
      rfl
    have kk2 : ∃ e1 : Int, (e1 ≤ -3 ∨ (e1 ≤ -2 ∧ ¬ ALN (x33.2.i 43))) ∧ CD1 (-2) e1 x19.2 x24.2 := by
      by_cases al : ALN (x24.2.i 43)
      · have z := gw.2.2 al
        refine ⟨-3, Or.inl (Int.le_refl _), (CD1.pe (b := 3) (ke24.trans peX) (j21.trans (Xi 21)) (j50.trans (Xi 50)) (b48.trans (by rw [Xa])) (b49.trans (by rw [Xa])) ?_).wk (by omega) (by omega)⟩
        rw [← X44]
        exact z
      · have z := gw.2.1
        refine ⟨-2, Or.inr ⟨Int.le_refl _, by rw [t43]; exact al⟩, (CD1.pe (b := 2) (ke24.trans peX) (j21.trans (Xi 21)) (j50.trans (Xi 50)) (b48.trans (by rw [Xa])) (b49.trans (by rw [Xa])) ?_).wk (by omega) (by omega)⟩
        rw [← X44]
        exact z
    obtain ⟨e1', he1, kk2⟩ := kk2
    have Q1e : pe (CS.setO (CS.setO pp.2 a 10 x1.1) a 9 x5.1) = pe x5.2 := kpp
    have l19 := w0.l19
    exact JRW.doo (Q1 := CS.setO (CS.setO pp.2 a 10 x1.1) a 9 x5.1) (Q2 := x24.2) (z1 := q) (jst.go jw (e := 0) (Or.inr ⟨rfl, Or.inr (by rw [h43]; decide)⟩) hv.2.1.1) w0.1 ex1 ex5 ((CD1.pe (b := 0) Q1e (ji 21 (by decide) (by decide)) (ji 50 (by decide) (by decide)) (by show pp.2.a 48 = _; rw [pa]) (by show pp.2.a 49 = _; rw [pa]) (by show (x5.2.i 44).toInt + 0 ≤ (pp.2.i 44).toInt; rw [ji 44 (by decide) (by decide)]; omega)).wk (by omega) (by omega)) (fun _ _ => CT7.eq (by show pp.2.a 17 = _; rw [pa])) ⟨(pe_eq Q1e).1, ji 50 (by decide) (by decide), ji 44 (by decide) (by decide)⟩ ex19 kk2 (fun _ _ => CT7.eq ((pe_eq (ke24.trans peX)).2.2.2.1)) ((pe_eq (ke24.trans peX)).1) he1 (by omega) (fun _ => CD2.qe qq) ((qe_eq qq).1.1) (NMV.tbk kq) ex29' ev24 (by omega) ex33 hem (CD1.rf _) (fun _ _ => CT7.rf _ _ _) rfl (fun _ => (CD2.qe (s := em.2) (u := RS.setA em.2 66 T em.1) rfl).tr (CD2.qe qu)) ((qe_eq qu).1.1) n1.2.1.1 ⟨un.1, fun j _ => by rw [un.2.1]; rfl⟩ (show x33.2.o c1.2.1 0 = 206 by rw [v2']; exact g0) (show x33.2.o c1.2.1 9 = x5.1 by rw [v2', o33]; exact oX9) (show x33.2.o c1.2.1 10 = x1.1 by rw [v2', o33]; exact oX10) (show x33.2.o c1.2.1 11 = x19.1 by rw [v2', o33]; exact oX11) (show (vw x33.2 u' c1).2.1 66 = em.1 by rw [vw_at (k := 66) ⟨by decide, by decide⟩, v3', uj 66 (by decide) (by decide) (by decide) (by decide)]; exact setA_at) R36 lpf (show x33.2.o c1.2.1 2 = x33.2.i 38 by rw [v2', o33, oX2, x3338]) (show NT5 (x33.2.o c1.2.1 9) ∧ NT5 (x33.2.o c1.2.1 10) by rw [v2', o33, oX9, oX10]; exact ⟨nt5 w1.1 ex5, nt5 w0.1 ex1⟩) (by rw [un.2.2.1, e11]; omega) (by rw [un.2.2.2]; show (s.i 19).toInt ≤ (em.2.i 19).toInt; rw [n10', v10]; omega) pls
