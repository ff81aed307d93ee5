section
/-! both readers: do -/
set_option maxHeartbeats 4000000 in
theorem st_do {N : Nat} (hN : 1000 ≤ N) {d : Int32} {B : CS} {b : RS} {t0 T n : Nat} {L : List CEL} {x : Int} {S : CS} {s U : RS} {c : CEL} {p R : Unit × CS} {A : JBA} (hC : COR d B b t0 (c :: L) x S s) (hS : STO c T S s) (hT : t0 ≤ T) (hm : NMC c S) (hx : S.o c.2.1 0 = 303 → x = -3) (hB : BOT b S (c :: L)) (h43 : S.i 43 = 206) (e1 : f_X0_add N (CS.setI (CS.setI S 36 1) 24 ((S.i 24) + 1)) 51 0 = some p) (e : f_X7_beginDo N p.2 = some R) (g : f_X12_parse_10 N n s = some U) : (¬ R.2.i 32 = 0 ∧ ¬ U.i 15 = 0) ∨ DMD d B R.2 U ∨ ∃ (m : Nat) (u : RS), f_X12_parse_10 N m u = some U ∧ NEW d B b t0 c L R.2 u (JTR A U B b (c :: L) S s) := by
  obtain ⟨q1, q2, q3, q4, q5, q6⟩ := id hS
  have hv := hC.1
  have k10 := (tk_is hv (a := 206) (b := 416) (Or.inr ⟨by decide, by decide⟩) (by decide)).mp h43
  obtain ⟨m1, s1, g1, w0, a64, a65, i43, i10, ph3, i21, i11, jst⟩ := st_gj hC hS k10 (Or.inr (Or.inr (Or.inl ⟨rfl, rfl⟩))) (by decide) e1 g
  have t21 := hC.2.2.2.2.2.2.2.2.1.1
  have q54 := hC.2.2.2.2.2.2.2.2.1.2.2
  -- the class, taken apart
  unfold f_X7_beginDo at e
  obtain ⟨x1, ex1, e⟩ := hf_bind e
  obtain ⟨x5, ex5, e⟩ := hf_bind e
  obtain ⟨x9, ex9, e⟩ := hf_bind e
  obtain ⟨pp, a, epp, ra, hx9⟩ := pl_in ex9
  rw [hx9] at e
  have e' : ((f_X0_newTarget N (CS.setO (CS.setO pp.2 a 10 x1.1) a 9 x5.1)).bind fun p19 => if oK p19.2 a 0 then (f_X9_advance N (CS.setO p19.2 a 11 p19.1)).bind fun p24 => if oK p24.2 a 0 then (f_X0_aim N p24.2 (CS.o p24.2 a 11)).bind fun p29 => (f_X0_add N p29.2 51 0).bind fun p33 => some ((), p33.2) else none else none) = some R := e
  obtain ⟨x19, ex19, e'⟩ := hf_bind e'
  obtain ⟨-, e'⟩ := hf_ite e'
  obtain ⟨x24, ex24, e'⟩ := hf_bind e'
  obtain ⟨-, e'⟩ := hf_ite e'
  obtain ⟨x29, ex29, e'⟩ := hf_bind e'
  obtain ⟨x33, ex33, e'⟩ := hf_bind e'
  cases e'
  show (¬ x33.2.i 32 = 0 ∧ ¬ U.i 15 = 0) ∨ DMD d B x33.2 U ∨ ∃ (m : Nat) (u : RS), f_X12_parse_10 N m u = some U ∧ NEW d B b t0 c L x33.2 u (JTR A U B b (c :: L) S s)
  have w1 := w0.nt (by rw [i21, i11]; omega) ex1
  have w2 := w1.nt (by have := w1.2.2.2.2.2.2.2.1; rw [i11] at this ⊢; omega) ex5
  have n21 := w2.2.2.2.2.2.2.2.1
  have n54 := w2.2.2.2.2.2.2.2.2.1
  rw [i11] at n21 n54
  -- the row
  obtain ⟨m, hmm, m38⟩ := RWI.few w2.1
  have hm' : (x5.2.i 53).toInt = (m : Int) := hmm
  obtain ⟨a', ra', psr⟩ := y_push w2.1.ri.s hmm (by omega) epp
  have ea : a' = a := by
    rw [ra] at ra'
    cases ra'
    rfl
  rw [ea] at psr
  obtain ⟨sj1, sj2, sj3, sj4, sj5, sj6⟩ := id w2.1.sj
  have hi := i11_hi w2.1
  have sq0 := psr.sq hm' m38 ⟨sj1, by omega⟩
  have sq1 := (((sq0.so (k := 10) (w := x1.1) ⟨by decide, by decide, by decide, by decide⟩).so (k := 9) (w := x5.1) ⟨by decide, by decide, by decide, by decide⟩).nt ex19).so (k := 11) (w := x19.1) ⟨by decide, by decide, by decide, by decide⟩
  have f5 := psr.2.2.2.2.2.2.2.2.2.1.1
  have ji := psr.2.1
  have ni := nt_i ex19
  have n17 : ∀ k : Nat, k ≠ 21 → x19.2.i k = pp.2.i k := fun k hk => by
    unfold f_X0_newTarget at ex19
    cases ex19
    exact if_neg hk
  have na : ∀ k : Nat, k ≠ 17 → x19.2.a k = pp.2.a k := fun k hk => by
    unfold f_X0_newTarget at ex19
    cases ex19
    exact if_neg hk
  have nr : x19.2.r = pp.2.r ∧ x19.2.b = pp.2.b ∧ x19.2.l = pp.2.l ∧ x19.2.L = pp.2.L ∧ x19.2.k = pp.2.k ∧ x19.2.hs = pp.2.hs ∧ x19.2.ol = pp.2.ol ∧ (∀ b : Nat, x19.2.o b = (CS.setO (CS.setO pp.2 a 10 x1.1) a 9 x5.1).o b) := by
    unfold f_X0_newTarget at ex19
    cases ex19
    exact ⟨rfl, rfl, rfl, rfl, rfl, rfl, rfl, fun _ => rfl⟩
  have X21 : (x19.2.i 21).toInt = (x5.2.i 21).toInt + 1 := by
    rw [ni.2.2.2.2.2]
    show (pp.2.i 21 + 1).toInt = _
    rw [ji 21 (by decide) (by decide)]
    have := w2.1.t21
    exact ad1 this.1 (by omega)
  obtain ⟨X, hX⟩ : ∃ X, X = CS.setO x19.2 a 11 x19.1 := ⟨_, rfl⟩
  have Xi : ∀ k : Nat, X.i k = x19.2.i k := by
    rw [hX]
    exact fun _ => rfl
  have Xa : X.a = x19.2.a := by rw [hX]; rfl
  have Xr : X.r = x19.2.r ∧ X.b = x19.2.b ∧ X.l = x19.2.l ∧ X.L = x19.2.L ∧ X.k = x19.2.k ∧ X.hs = x19.2.hs ∧ X.ol = x19.2.ol := by rw [hX]; exact ⟨rfl, rfl, rfl, rfl, rfl, rfl, rfl⟩
  have Xo : ∀ b : Nat, X.o b 0 = pp.2.o b 0 := fun b => by
    rw [hX, so_nk (by decide), nr.2.2.2.2.2.2.2 b, so_nk (by decide), so_nk (by decide)]
  have Xo5 : X.o a 5 = 0 := by
    rw [hX, so_nk (by decide), nr.2.2.2.2.2.2.2 a, so_nk (by decide), so_nk (by decide)]
    exact f5
  have peX : pe X = pe x19.2 := by rw [hX]; rfl
  have oX11 : X.o a 11 = x19.1 := by rw [hX]; exact so_at
  have oX9 : X.o a 9 = x5.1 := by rw [hX, so_nk (by decide), nr.2.2.2.2.2.2.2 a]; exact so_at
  have oX10 : X.o a 10 = x1.1 := by rw [hX, so_nk (by decide), nr.2.2.2.2.2.2.2 a, so_nk (by decide)]; exact so_at
  have oX2 : X.o a 2 = x5.2.i 38 := by rw [← psh_o2 epp ra, hX, so_nk (by decide), nr.2.2.2.2.2.2.2 a, so_nk (by decide), so_nk (by decide)]
  rw [← hX] at ex24 sq1
  clear hX
  obtain ⟨⟨pa, pb, pl⟩, -, ⟨p53, p54⟩, -⟩ := id psr
  have X54 : (X.i 54).toInt = (x5.2.i 54).toInt + 1 := by
    rw [Xi 54, n17 54 (by decide), p54]
    exact ad1 sj1 (by omega)
  have ew : ENW d X s1 := by
    refine w2.1.w.gx (fun j h1 _ _ h4 h5 _ _ => ?_) ⟨?_, ?_, ?_⟩ ?_ ?_ ?_ ?_
    · rw [Xi j, n17 j h1, ji j h4 h5]
    · rw [Xa, na 0 (by decide), pa]
    · rw [Xa, na 9 (by decide), pa]
    · rw [Xa, na 49 (by decide), pa]
    · rw [Xr.2.1, nr.2.1, pb]
    · rw [Xr.2.2.1, nr.2.2.1, pl]
    · unfold SJB
      rw [X54, Xi 55, n17 55 (by decide), ji 55 (by decide) (by decide), Xi 38, n17 38 (by decide), ji 38 (by decide) (by decide)]
      rw [i11] at sj2 sj4 ⊢
      omega
    · rw [Xi 21, X21]
      have := w2.1.t21
      rw [i11] at this ⊢
      omega
  have X43 : X.i 43 = 206 := by
    rw [Xi 43, n17 43 (by decide), ji 43 (by decide) (by decide), (nt_i ex5).2.1, (nt_i ex1).2.1, i43, h43]
  -- the reference
  obtain ⟨m2, V, hV, g2⟩ := rl_11 g1 w0.2.1 w0.1.1.2.1 a64
  unfold f_X12_repeats at hV
  obtain ⟨-, hV⟩ := hf_ite hV
  rw [tp_nat w0.2.1, if_pos a65] at hV
  obtain ⟨q, hq, hV⟩ := hf_bind hV
  obtain ⟨em, hem, hV⟩ := hf_bind hV
  obtain ⟨G, hG, hV⟩ := hf_bind hV
  rw [ob_id] at hV
  obtain ⟨v1, v2, v3, v4, v5, v6, v7, v8, v9, v10, v11, v12⟩ := ew.adv hN (by rw [X43]; decide) ex24 hq
  obtain ⟨-, -, -, -, -, -, -, -, -, -, -, -, y38, y50, y53, y54, y55, y56, -, -, -, -, y52, yr, yo, yol, -, y21, ⟨yh, yL, yk⟩⟩ := pj_eq v3
  have gain := ADV.gain ew.1.2.2.2.2.2.2.1 v11
  have tw : 200 ≤ (X.i 43).toInt := by rw [X43]; decide
  have gw := gain.2.2.2.2.1 (Or.inl tw)
  have plX : plI X = (s1.i 11).toInt := by
    show (X.i 44).toInt = _
    rw [ew.1.2.2.2.1.1]
  have pl24 : plI x24.2 = (q.i 11).toInt := by
    show (x24.2.i 44).toInt = _
    rw [v1.1.2.2.2.1.1]
  have rw24 : RWI x24.2 := by
    refine psr.late w2.1.ri hm' (by omega) ⟨by decide, by decide, by decide, by decide⟩ (by rw [yr, Xr.1, nr.1]) (by rw [yL, Xr.2.2.2.1, nr.2.2.2.1]) (by rw [yk, Xr.2.2.2.2.1, nr.2.2.2.2.1]) (by rw [yh, Xr.2.2.2.2.2.1, nr.2.2.2.2.2.1]) (by rw [y53, Xi 53, n17 53 (by decide)]) (fun b => ⟨by rw [yo, Xo b], by rw [yol, Xr.2.2.2.2.2.2, nr.2.2.2.2.2.2.1]⟩) ?_ ?_
    · have z1 := w2.1.ri.2.2.2.2.2.1
      have es : (cnI x5.2).toNat = m := by
        show (x5.2.i 53).toInt.toNat = m
        rw [hm']
        exact Int.toNat_natCast _
      rw [es] at z1
      have al : ALN (x5.2.i 43) := Or.inr (by rw [(nt_i ex5).2.1, (nt_i ex1).2.1, i43, h43]; decide)
      rw [eI.al al] at z1
      have z2 : plI x5.2 = (s1.i 11).toInt := by
        show (x5.2.i 44).toInt = _
        rw [w2.1.1.2.2.2.1.1]
      omega
    · have z1 := w2.1.ri.2.2.2.2.2.2
      have es : (cnI x5.2).toNat = m := by
        show (x5.2.i 53).toInt.toNat = m
        rw [hm']
        exact Int.toNat_natCast _
      rw [es] at z1
      have e34 : sgI x24.2 = sgI x5.2 := by
        unfold sgI
        rw [v1.2.2.1.1, w2.1.2.2.1.1, v10]
      rw [e34, if_neg (by decide), if_neg (by decide)]
      omega
  have ev24 : ENV d x24.2 q := v1.v rw24
  have kk : pj2 x33.2 = pj2 x24.2 := (kd_X0_add N x29.2 51 0 x33 ex33).trans (kd_X0_aim N x24.2 _ x29 ex29)
  have ev33 : ENV d x33.2 q := ev24.kd kk
  have sq2 : PSQ x5.2 x24.2 a m 206 (x5.2.i 50) := sq1.cx (by omega) (CKX.of v3 v8 v9) (pj_54 v3) y55 y52
  have sq3 := sq2.kd (by omega) kk
  -- the reference, before its goal
  have tq : tpI q = (T : Int) := qj_63 v2 w0.2.1
  have phq : phI q = phI s1 + 3 := by
    unfold phI
    rw [v6, v12]
    omega
  have ph1 := w0.2.2.2.2.2.2.1.2.1
  obtain ⟨n1, n2, n3, n4, n5, n6, n7, n8, n9, n10', n11'⟩ := y_emit ev33 tq (by omega) hem
  have qjm := (qj2_eq (em_env ev33 (by omega) hem).2.2.1).1
  obtain ⟨z59, z60, z61, z62, -⟩ := qj_p qjm
  obtain ⟨o59, o60, o61, o62, -⟩ := qj_p v2
  have kp := pj_eq (pj2_eq kk).1
  have x3321 : x33.2.i 21 = X.i 21 := (pj_21 (pj2_eq kk).1).trans y21
  have x3338 : x33.2.i 38 = x5.2.i 38 := by
    rw [kp.2.2.2.2.2.2.2.2.2.2.2.2.1, y38, Xi 38, n17 38 (by decide), ji 38 (by decide) (by decide)]
  have o5X : x33.2.o a 5 = 0 := by
    rw [kp.2.2.2.2.2.2.2.2.2.2.2.2.2.2.2.2.2.2.2.2.2.2.2.2.1, yo]
    exact Xo5
  obtain ⟨zX, ⟨r53, r54, -, -⟩, ⟨r50, -, -⟩, -, ⟨g0, -, g3', -⟩, -⟩ := id sq3
  have i50 := w2.2.2.2.2.2.1.2.1
  have fs1 : FRB T s1 (RS.setA em.2 66 T em.1) := ((FRB.of v2).tr (n3 T)).tr (setA_frb (Or.inr ⟨by omega, by omega, Nat.le_refl _⟩))
  have ts1 : TBK s1 (RS.setA em.2 66 T em.1) := ((TBK.of v2 (by rw [v6]; exact Int.le_refl _) (fun j _ => by rw [v7])).tr n4).tr (setA_tbk (by omega))
  have q64 : (RS.setA em.2 66 T em.1).a 64 T = 11 := by
    show em.2.a 64 T = 11
    rw [(n3 (T + 1) T (by omega)).1, ((FRB.of v2 : FRB (T + 1) s1 q) T (by omega)).1]
    exact a64
  have e11 : (RS.setA em.2 66 T em.1).i 11 = q.i 11 := n8
  have e17 : (RS.setA em.2 66 T em.1).i 17 = q.i 17 := n9
  have eph : phI (RS.setA em.2 66 T em.1) = phI q - 1 := n5
  have i11' : (s1.i 11).toInt = (s.i 11).toInt := by rw [i11]
  refine Or.inr (lp_tail hC q1 q2 q3 hT hm hx hB (w2.z (by omega)) (by omega) (Or.inr (Or.inl rfl)) sq3 (g3'.trans i50) x3338 o5X (fun _ => r50.trans g3'.symm) fs1 ts1.t9 n2 (setA_env (Or.inr (by omega)) n1) hG (Or.inl rfl) hV g2 ⟨by rw [e11]; omega, ?_, by rw [e17]; omega, ?_⟩ (by rw [x3321, Xi 21, X21, e11]; omega) (by rw [r54, e11]; omega) ⟨?_, ?_, ?_, ?_⟩ (fun u g w hu h1 h2 h3 => ?_) (fun u c1 k h1 h2 hu h3 => ?_) (fun u' c1 v2' v3' qu un uj uf R36 lpf pls ku jw => ?_))
  · show phI s + 0 ≤ phI (RS.setA em.2 66 T em.1)
    rw [eph]
    omega
  · show (em.2.i 19).toInt = (s.i 19).toInt
    have z9 := w2.2.2.2.2.2.2.1.2.2.2
    rw [n10', v10]
    omega
  · show em.2.i 59 = s1.i 59
    rw [z59, o59]
  · show em.2.a 60 = s1.a 60
    rw [z60, o60]
  · show em.2.a 61 = s1.a 61
    rw [z61, o61]
  · show em.2.a 62 = s1.a 62
    rw [z62, o62]
  · exact RFR.m206 g0 ⟨(hu 64 (by decide) (by decide) (by decide) (by decide)).trans q64, h1, h2, h3⟩
  · exfalso
    unfold PLF at h3
    rw [h1, g0] at h3
    rcases h3 with ⟨z | z, -⟩ | ⟨z, -⟩ | ⟨z | z, -⟩ <;> exact absurd z (by decide)
  · have hin := hC.inl q1 q3
    have ckall : CKZ S x33.2 := w2.2.2.2.2.1.tr w2.2.2.2.2.2.1.2.2.1 zX
    have veq : vws x33.2 u' (c :: L) = vws S s (c :: L) := vws.eqf (T := T) (uf.2) (c :: L) hC.o3 (fun y hy => (hin.o ckall y hy).1) (fun k t h1 h2 h3 => (uf.1 k t h1 h2 h3).trans ((w2.2.2.1.tr fs1).fld k t h1 h2 h3)) (fun y hy => by
      have z1 := wid1 (S.o y.2.1 0)
      have z2 := (hin y hy).2.2.1
      omega)
    show JRW A U B b (vw x33.2 u' c1 :: vws x33.2 u' (c :: L)) x33.2 u'
    rw [veq] at pls ⊢
    have kpp := ke_X6_push N x5.2 206 _ _ pp epp
    have kq : TBK s1 q := TBK.of v2 (by rw [v6]; exact Int.le_refl _) (fun j _ => by rw [v7])
    have qq := kre_f_X12_next N s1 q hq
    have ke24 := ke_X9_advance N X x24 ex24
    have o33 : x33.2.o = X.o := by rw [kp.2.2.2.2.2.2.2.2.2.2.2.2.2.2.2.2.2.2.2.2.2.2.2.2.1, yo]
    have ex29' : f_X0_aim N x24.2 x19.1 = some x29 := by
      have z : CS.o x24.2 a 11 = x19.1 := by rw [yo]; exact oX11
      rw [z] at ex29
      exact ex29
    obtain ⟨-, -, -, -, -, -, -, -, -, -, -, -, -, j50, -, -, -, -, -, -, b48, b49, -, -, -, -, -, j21, -⟩ := pj_eq v3
    have X44 : X.i 44 = x19.2.i 44 := Xi 44
    have hi24 := (i11_hi ev24).2
    have p24 : (x24.2.i 44).toInt = (q.i 11).toInt := by rw [ev24.p44.1]
    have t43 : x33.2.i 43 = x24.2.i 43 := by
      unfold f_X0_add at ex33
      cases ex33
      unfold f_X0_aim at ex29
      cases ex29
      rfl
    have kk2 : ∃ e1 : Int, (e1 ≤ -3 ∨ (e1 ≤ -2 ∧ ¬ ALN (x33.2.i 43))) ∧ CD1 (-2) e1 x19.2 x24.2 := by
      by_cases al : ALN (x24.2.i 43)
      · have z := gw.2.2 al
        refine ⟨-3, Or.inl (Int.le_refl _), (CD1.pe (b := 3) (ke24.trans peX) (j21.trans (Xi 21)) (j50.trans (Xi 50)) (b48.trans (by rw [Xa])) (b49.trans (by rw [Xa])) ?_).wk (by omega) (by omega)⟩
        rw [← X44]
        exact z
      · have z := gw.2.1
        refine ⟨-2, Or.inr ⟨Int.le_refl _, by rw [t43]; exact al⟩, (CD1.pe (b := 2) (ke24.trans peX) (j21.trans (Xi 21)) (j50.trans (Xi 50)) (b48.trans (by rw [Xa])) (b49.trans (by rw [Xa])) ?_).wk (by omega) (by omega)⟩
        rw [← X44]
        exact z
    obtain ⟨e1', he1, kk2⟩ := kk2
    have Q1e : pe (CS.setO (CS.setO pp.2 a 10 x1.1) a 9 x5.1) = pe x5.2 := kpp
    have l19 := w0.l19
    exact JRW.doo (Q1 := CS.setO (CS.setO pp.2 a 10 x1.1) a 9 x5.1) (Q2 := x24.2) (z1 := q) (jst.go jw (e := 0) (Or.inr ⟨rfl, Or.inr (by rw [h43]; decide)⟩) hv.2.1.1) w0.1 ex1 ex5 ((CD1.pe (b := 0) Q1e (ji 21 (by decide) (by decide)) (ji 50 (by decide) (by decide)) (by show pp.2.a 48 = _; rw [pa]) (by show pp.2.a 49 = _; rw [pa]) (by show (x5.2.i 44).toInt + 0 ≤ (pp.2.i 44).toInt; rw [ji 44 (by decide) (by decide)]; omega)).wk (by omega) (by omega)) (fun _ _ => CT7.eq (by show pp.2.a 17 = _; rw [pa])) ⟨(pe_eq Q1e).1, ji 50 (by decide) (by decide), ji 44 (by decide) (by decide)⟩ ex19 kk2 (fun _ _ => CT7.eq ((pe_eq (ke24.trans peX)).2.2.2.1)) ((pe_eq (ke24.trans peX)).1) he1 (by omega) (fun _ => CD2.qe qq) ((qe_eq qq).1.1) (NMV.tbk kq) ex29' ev24 (by omega) ex33 hem (CD1.rf _) (fun _ _ => CT7.rf _ _ _) rfl (fun _ => (CD2.qe (s := em.2) (u := RS.setA em.2 66 T em.1) rfl).tr (CD2.qe qu)) ((qe_eq qu).1.1) n1.2.1.1 ⟨un.1, fun j _ => by rw [un.2.1]; rfl⟩ (show x33.2.o c1.2.1 0 = 206 by rw [v2']; exact g0) (show x33.2.o c1.2.1 9 = x5.1 by rw [v2', o33]; exact oX9) (show x33.2.o c1.2.1 10 = x1.1 by rw [v2', o33]; exact oX10) (show x33.2.o c1.2.1 11 = x19.1 by rw [v2', o33]; exact oX11) (show (vw x33.2 u' c1).2.1 66 = em.1 by rw [vw_at (k := 66) ⟨by decide, by decide⟩, v3', uj 66 (by decide) (by decide) (by decide) (by decide)]; exact setA_at) R36 lpf (show x33.2.o c1.2.1 2 = x33.2.i 38 by rw [v2', o33, oX2, x3338]) (show NT5 (x33.2.o c1.2.1 9) ∧ NT5 (x33.2.o c1.2.1 10) by rw [v2', o33, oX9, oX10]; exact ⟨nt5 w1.1 ex5, nt5 w0.1 ex1⟩) (by rw [un.2.2.1, e11]; omega) (by rw [un.2.2.2]; show (s.i 19).toInt ≤ (em.2.i 19).toInt; rw [n10', v10]; omega) pls
end
section
/-! both readers: a row more, any but a loop's and a label's -/
/-- the chains, heads and waiting instructions of the rows lie before the statement's code -/
def COF (s : RS) (R : CS) (u : RS) (L : List CEL) (col : Nat → Option (Nat × Bool)) : Prop := (∀ k : Int, (s.i 20).toInt ≤ k → col k.toNat = none) ∧ (∀ y ∈ L, R.o y.2.1 0 = 218 → (u.a 66 (ceT y)).toInt < (s.i 20).toInt) ∧ (∀ y ∈ L, ∀ k : Int, PLF R u y k → k < (s.i 20).toInt)
theorem COL.cof {S R : CS} {s u : RS} {T : Nat} {L : List CEL} {col : Nat → Option (Nat × Bool)} {b20 : Int} (h : COL S s L col b20) (h0 : 0 ≤ (s.i 20).toInt) (hin : INL S s T L) (ck : CKZ S R) (f : FRB T s u) : COF s R u L col := by
  have eo := fun c hc => (hin.o ck c hc).1
  have fr : ∀ c ∈ L, u.a 66 (ceT c) = s.a 66 (ceT c) ∧ u.a 67 (ceT c) = s.a 67 (ceT c) ∧ u.a 68 (ceT c) = s.a 68 (ceT c) := fun c hc => by
    have a := (hin c hc).2.2.1
    have b := wid1 (S.o c.2.1 0)
    have z := f (ceT c) (by omega)
    exact ⟨z.2.2.1, z.2.2.2.1, z.2.2.2.2.1⟩
  refine ⟨fun k hk => (h.fresh h0 hk).1, fun y hy t => ?_, fun y hy k p => ?_⟩
  · rw [eo y hy] at t
    rw [(fr y hy).1]
    exact (h.2.2.2.2.1 y hy t).2.1
  · have p' : PLF S s y k := by
      unfold PLF at *
      rw [eo y hy, (fr y hy).1, (fr y hy).2.1, (fr y hy).2.2] at p
      exact p
    exact (h.2.2.2.2.2.2 y hy k p').2.1
/-- as WAZ, but frames above T and the depth may be other -/
def NM9 (s u : RS) : Prop := u.i 2 = s.i 2 ∧ u.i 3 = s.i 3 ∧ u.i 8 = s.i 8 ∧ u.i 43 = s.i 43 ∧ True ∧ u.i 56 = s.i 56 ∧ u.a 1 = s.a 1 ∧ u.a 4 = s.a 4 ∧ u.b 9 = s.b 9
def WAX (d : Int32) (T : Nat) (p f k y z : Int) (S : CS) (s : RS) (P : CS) (q : RS) : Prop := ENV d P q ∧ True ∧ FRB T s q ∧ (TBR s q ∧ CDK (s.i 20).toInt s q ∧ NM9 s q) ∧ CKZ S P ∧ (P.i 38 = S.i 38 ∧ P.i 53 = S.i 53 ∧ P.i 56 = S.i 56 ∧ P.i 36 = 1) ∧ ((s.i 11).toInt + p ≤ (q.i 11).toInt ∧ phI s + f ≤ phI q ∧ (s.i 17).toInt ≤ (q.i 17).toInt ∧ (q.i 19).toInt = (s.i 19).toInt + k) ∧ ((P.i 21).toInt + 2 * (s.i 11).toInt ≤ (S.i 21).toInt + 2 * (q.i 11).toInt + y ∧ (P.i 54).toInt + (s.i 11).toInt + z ≤ (S.i 54).toInt + (q.i 11).toInt ∧ 6 * (P.i 55).toInt + (s.i 11).toInt ≤ 6 * (S.i 55).toInt + (q.i 11).toInt) ∧ ((s.i 38).toInt ≤ (q.i 38).toInt ∧ (8 * ((s.i 38).toInt - 2) ≤ (s.i 11).toInt → 8 * ((q.i 38).toInt - 2) ≤ (q.i 11).toInt))
theorem WAZ.x {d : Int32} {T : Nat} {p f k y z : Int} {S P : CS} {s q : RS} (h : WAZ d T p f k y z S s P q) : WAX d T p f k y z S s P q := by
  obtain ⟨h1, h2, h3, ⟨h4, h5, ⟨a1, a2, a3, a4, a5, a6, a7, a8, a9⟩⟩, h6, h7, h8, h9, h10⟩ := h
  exact ⟨h1, trivial, h3, ⟨h4, h5, ⟨a1, a2, a3, a4, trivial, a6, a7, a8, a9⟩⟩, h6, h7, h8, h9, h10⟩
theorem WAX.nu {d : Int32} {T : Nat} {p f k y z p' f' k' y' z' : Int} {S P : CS} {s q : RS} (h : WAX d T p f k y z S s P q) (hp : p' ≤ p) (hf : f' ≤ f) (hk : k' = k) (hy : y ≤ y') (hz : z' ≤ z) : WAX d T p' f' k' y' z' S s P q := by
  obtain ⟨h1, h2, h3, h4, h5, h6, ⟨n1, n2, n3, n4⟩, ⟨r1, r2, r3⟩, l⟩ := h
  exact ⟨h1, h2, h3, h4, h5, h6, ⟨by omega, by omega, n3, by omega⟩, ⟨by omega, by omega, r3⟩, l⟩
theorem WAX.lo {d : Int32} {T : Nat} {p f k y z : Int} {S P : CS} {s q : RS} (h : WAX d T p f k y z S s P q) : (s.i 11).toInt + p ≤ (q.i 11).toInt ∧ phI s + f ≤ phI q ∧ (s.i 20).toInt ≤ (q.i 20).toInt ∧ (P.i 21).toInt + 2 * (s.i 11).toInt ≤ (S.i 21).toInt + 2 * (q.i 11).toInt + y ∧ (P.i 54).toInt + (s.i 11).toInt + z ≤ (S.i 54).toInt + (q.i 11).toInt ∧ (s.i 17).toInt ≤ (q.i 17).toInt := ⟨h.2.2.2.2.2.2.1.1, h.2.2.2.2.2.2.1.2.1, h.2.2.2.1.2.1.1, h.2.2.2.2.2.2.2.1.1, h.2.2.2.2.2.2.2.1.2.1, h.2.2.2.2.2.2.1.2.2.1⟩
theorem WAX.sum {d d0 : Int32} {T : Nat} {p f k y z : Int} {S P : CS} {s q : RS} (h : WAX d T p f k y z S s P q) (h0 : ENV d0 S s) : SGS P (cnI P).toNat = SGS S (cnI S).toNat ∧ WCS P (cnI P).toNat = WCS S (cnI S).toNat := by
  have w := h0.ri.2.2.2.1
  refine sum_eq w.2 (fun i hi => ?_) h.2.2.2.2.2.1.2.1
  have hi' : (i : Int) < (S.i 53).toInt := by
    have : cnI S = (S.i 53).toInt := rfl
    omega
  exact ⟨h.2.2.2.2.1.2.1 i hi', fun a ha => h.2.2.2.2.1.2.2.1 i a hi' ha⟩
theorem WAX.sg {d d0 : Int32} {T : Nat} {p f k y z : Int} {S P : CS} {s q : RS} (h : WAX d T p f k y z S s P q) (h0 : ENV d0 S s) : SGS P (cnI P).toNat + k ≤ sgI P := by
  rw [(h.sum h0).1]
  have e0 := h0.2.2.1.1
  have e1 := h.1.2.2.1.1
  have w := h0.ri.2.2.2.2.2.2
  have n := h.2.2.2.2.2.2.1.2.2.2
  unfold sgI at *
  rw [e0] at w
  rw [e1]
  omega
theorem WAX.pay {d d0 : Int32} {T : Nat} {p f k y z : Int} {S P : CS} {s q : RS} (h : WAX d T p f k y z S s P q) (h0 : ENV d0 S s) (hp : 4 ≤ p) : WCS P (cnI P).toNat + 3 ≤ eI P := by
  rw [(h.sum h0).2]
  have w := h0.ri.2.2.2.2.2.1
  have a := (eI.ge S).2
  have b := (eI.ge P).1
  have n := h.2.2.2.2.2.2.1.1
  have e0 := h0.1.2.2.2.1.1
  have e1 := h.1.1.2.2.2.1.1
  unfold plI at a b
  rw [e0] at a
  rw [e1] at b
  omega
/-- the reference changes, no token is read, no name told -/
theorem WAX.rs {d : Int32} {T : Nat} {p f k y z f1 : Int} {S P : CS} {s q u : RS} (h : WAX d T p f k y z S s P q) (ev : ENV d P u) (fr : FRB T q u) (tb : TBK9 q u) (n : u.i 11 = q.i 11 ∧ phI q + f1 ≤ phI u ∧ u.i 17 = q.i 17 ∧ u.i 19 = q.i 19) : WAX d T p (f + f1) k y z S s P u := by
  obtain ⟨h1, -, h3, ⟨h4, h5, ⟨a1, a2, a3, a4, -, a6, a7, a8, a9⟩⟩, h6, h7, ⟨n1, n2, n3, n4⟩, ⟨r1, r2, r3⟩, ⟨l1, l2⟩⟩ := h
  obtain ⟨⟨⟨t1, t2, t3, t4, t5, -, t7, t8, t9, t10⟩, tr⟩, tc⟩ := tb
  exact ⟨ev, trivial, h3.tr fr, ⟨h4.tr tr l1 (by rw [a4]; exact Int.le_refl _) (by rw [a6]; exact Int.le_refl _), h5.tr (tc.wk h5.1), ⟨t1.trans a1, t2.trans a2, t3.trans a3, t5.trans a4, trivial, t7.trans a6, t8.trans a7, t9.trans a8, t10.trans a9⟩⟩, h6, h7, ⟨by rw [n.1]; exact n1, by omega, by rw [n.2.2.1]; exact n3, by rw [n.2.2.2]; exact n4⟩, ⟨by rw [n.1]; exact r1, by rw [n.1]; exact r2, by rw [n.1]; exact r3⟩, ⟨by rw [t4]; exact l1, fun w => by rw [t4, n.1]; exact l2 w⟩⟩
theorem WAX.op {N : Nat} (hN : 1000 ≤ N) {d : Int32} {T : Nat} {p f k y z : Int} {S P : CS} {s q : RS} {R : Unit × CS} {V : Int32 × RS} {c e : Int32} (h : WAX d T p f k y z S s P q) (hc : tyR c) (hd : tm c = e) (h6 : ¬ e = 6) (h0 : ¬ c = 0) (e1 : f_X1_open N P c = some R) (g : f_X12_open N q e = some V) : (V.1 = 0 ∧ ¬ R.2.i 32 = 0 ∧ ¬ V.2.i 15 = 0) ∨ (V.1 = 1 ∧ WAX d T (p + 1) (f + 3) (k + 1) (y - 2) (z + 1) S s R.2 V.2 ∧ (∀ r : Nat, FRB r q V.2) ∧ V.2.i 63 = q.i 63 ∧ V.2.i 38 = q.i 38) := by
  rcases y_open hN h.1 hc hd h6 h0 e1 g with o | ⟨o1, o2, o3, o4, o5, o6, o7, o8, o9, o10, o11, o12⟩
  · exact Or.inl o
  · have q17 : (V.2.i 17).toInt = (q.i 17).toInt + 1 := by rw [o6, t17_up (N := N) h.1]
    have ck := CKX.of o5 o10 o11
    obtain ⟨h1, -, h3, ⟨h4, h5, ⟨a1, a2, a3, a4, -, a6, a7, a8, a9⟩⟩, h6', ⟨i1, i3, i4, i5⟩, ⟨n1, n2, n3, n4⟩, ⟨r1, r2, r3⟩, ⟨l1, l2⟩⟩ := h
    obtain ⟨⟨⟨t1, t2, t3, t4, t5, t6, t7, t8, t9, t10⟩, tr⟩, tc⟩ := TBK.of (s := q) (u := V.2) o4 (by rw [o8]; exact Int.le_refl _) (fun j _ => by rw [o9])
    obtain ⟨⟨b1, b2, b3, b4, b5, b6⟩, -⟩ := id ck
    have e21 := pj_21 o5
    have e54 := pj_54 o5
    have e55 := (pj_eq o5).2.2.2.2.2.2.2.2.2.2.2.2.2.2.2.2.1
    have e63 : V.2.i 63 = q.i 63 := (qj_eq o4).2.2.2.2.2.2.2.2.2.2.2.2.2.2.2.2.1
    refine Or.inr ⟨o1, ⟨o3, trivial, h3.tr (FRB.of o4), ⟨h4.tr tr l1 (by rw [a4]; exact Int.le_refl _) (by rw [a6]; exact Int.le_refl _), h5.tr (tc.wk h5.1), ⟨t1.trans a1, t2.trans a2, t3.trans a3, t5.trans a4, trivial, t7.trans a6, t8.trans a7, t9.trans a8, t10.trans a9⟩⟩, h6'.tr i3 ck.z, ⟨b3.trans i1, b5.trans i3, b6.trans i4, b2.trans i5⟩, ⟨by omega, ?_, by omega, by omega⟩, ⟨by rw [e21]; omega, by rw [e54]; omega, by rw [e55]; omega⟩, ⟨by rw [t4]; exact l1, fun w => by rw [t4]; have := l2 w; omega⟩⟩, fun r => FRB.of o4, e63, t4⟩
    have z1 : phI V.2 = phI q + 3 := by
      unfold phI
      rw [o8, q17]
      omega
    omega
set_option maxHeartbeats 4000000 in
theorem COR.gen {d : Int32} {B : CS} {b : RS} {t0 T : Nat} {L : List CEL} {x p f k y z : Int} {S P R : CS} {s q u : RS} {c : CEL} {a m : Nat} {v x3 : Int32} (hC : COR d B b t0 (c :: L) x S s) (q1 : TOP S s c) (q2 : LOW S s c) (q3 : T = ceT c + wid (S.o c.2.1 0)) (hT : t0 ≤ T) (hm : NMC c S) (hx : S.o c.2.1 0 = 303 → x = -1) (w : WAX d T p f k y z S s P q) (hp : 0 ≤ p) (nv : ¬ v = 303 ∧ ¬ v = 205 ∧ ¬ v = 206 ∧ ¬ v = 207 ∧ ¬ v = 304 ∧ ¬ v = 216 ∧ isKS v) (sq : PSQ P R a m v x3) (g3 : R.o a 3 = S.i 50) (x38 : (R.i 38).toInt = (P.i 38).toInt + (nDp v : Int)) (fu : FRB T q u) (tu : TBR q u) (cu : CDK (q.i 20).toInt q u) (nu : u.i 2 = q.i 2 ∧ u.i 3 = q.i 3 ∧ u.i 8 = q.i 8 ∧ u.i 38 = q.i 38 ∧ u.a 1 = q.a 1 ∧ u.a 4 = q.a 4 ∧ u.b 9 = q.b 9) (e43 : (u.i 43).toInt = (q.i 43).toInt + (nGo v : Int)) (e56 : (u.i 56).toInt = (q.i 56).toInt + (nWl v : Int)) (ev : ENV d R u) (nn : (q.i 11).toInt ≤ (u.i 11).toInt ∧ phI s + dbt v ≤ phI u ∧ (q.i 17).toInt ≤ (u.i 17).toInt ∧ (u.i 19).toInt = (s.i 19).toInt + (nSg v : Int)) (n21 : (R.i 21).toInt + 2 * (s.i 11).toInt ≤ (S.i 21).toInt + 2 * (u.i 11).toInt) (n54 : (R.i 54).toInt + (s.i 11).toInt ≤ (S.i 54).toInt + (u.i 11).toInt) (up : u.i 59 = q.i 59 ∧ u.a 60 = q.a 60 ∧ u.a 61 = q.a 61 ∧ u.a 62 = q.a 62) (cst : ∀ c1 : CEL, c1.1 = m → c1.2.1 = a → ceT c1 = T → (ceG c1 : Int) = (q.i 43).toInt → (ceW c1 : Int) = (q.i 56).toInt → CST R u c1 (R.i 22).toInt (u.i 24).toInt (u.i 33).toInt (R.i 22).toInt (u.i 24).toInt (u.i 33).toInt) (na : ∀ g : Nat, (q.i 43).toInt = (g : Int) → isGo v → ¬ u.a 44 g = 3 ∧ u.a 50 g = 0 ∧ u.a 51 g = 0) (hy : isTy v → (u.a 66 T).toInt = (q.i 29).toInt) (hcol : ∀ (c1 : CEL) (col : Nat → Option (Nat × Bool)), c1.2.1 = a → ceT c1 = T → (ceG c1 : Int) = (q.i 43).toInt → (∀ y ∈ c :: L, y.1 < c1.1) → COL R u (c :: L) col (b.i 20).toInt → COF s R u (c :: L) col → (b.i 20).toInt ≤ (s.i 20).toInt → COL R u (c1 :: c :: L) col (b.i 20).toInt) : ∃ c1 : CEL, COR d B b t0 (c1 :: c :: L) (-9) R u ∧ TOP R u c1 ∧ c1.2.1 = a ∧ ceT c1 = T := by
  obtain ⟨w1, w2, wf, ⟨wt, wcd, wn⟩, wz, ⟨j38, j53, j56, j36⟩, ⟨n11, nph, n17, n19⟩, ⟨-, -, n55⟩, ⟨l38, l8⟩⟩ := w
  obtain ⟨nm1, nm2, nm3, nm4, nm5, nm6, nm7, nm8, nm9⟩ := wn
  obtain ⟨nu1, nu2, nu3, nu4, nu5, nu6, nu7⟩ := nu
  have hin := hC.inl q1 q3
  obtain ⟨zX, ⟨r53, r54, r55, r52⟩, ⟨r50, r56, r36⟩, ⟨m1', m2', rr1⟩, ⟨g0, g1', -, g14⟩, -⟩ := id sq
  have hv0 := hC.1
  have t1 := q1.2.1
  have t2 := q1.2.2
  have fr1 : FRB T s u := wf.tr fu
  have tb : TBR s u := wt.tr tu l38 (by rw [nm4]; exact Int.le_refl _) (by rw [nm6]; exact Int.le_refl _)
  have cd1 : CDK (s.i 20).toInt s u := wcd.tr (cu.wk wcd.1)
  have ckall : CKZ S R := wz.tr j53 zX
  have eo := (hin.o ckall c List.mem_cons_self).1
  have low : LOW R u c := q2.mv eo fr1 (by omega)
  have z44 : S.i 44 = s.i 11 := hv0.1.2.2.2.1.1
  have z45 : R.i 44 = u.i 11 := ev.1.2.2.2.1.1
  have rte : RTE S R := by
    unfold RTE
    rw [z44, z45, r55]
    exact ⟨n21, n54, by omega⟩
  obtain ⟨sj1, sj2, sj3, sj4, sj5, sj6⟩ := id w1.sj
  have hi11 := i11_hi w1
  have hinP : INL P q T (c :: L) := hin.mv wz j53 nm4 nm6
  have eoP : ∀ y ∈ c :: L, P.o y.2.1 = S.o y.2.1 := fun y hy => (hin.o wz y hy).1
  have eP : ∀ y ∈ c :: L, R.o y.2.1 = P.o y.2.1 := fun y hy => (hinP.o zX y hy).1
  obtain ⟨b29, b30, b0, col, hc⟩ := id hC.2.2.2.2.2.2.2.2.2.2
  have jP : JMQ P q (c :: L) (b.i 59).toInt (b.i 29).toInt := hC.2.2.1.mv b29 hv0.sj.1 hin wz wf wt
  have jp := hC.jp
  obtain ⟨-, -, -, -, -, -, j7, -⟩ := id jP
  obtain ⟨k1, k2, k3, k4, k5⟩ := j7 c List.mem_cons_self
  rw [eoP c List.mem_cons_self] at k1 k2 k3 k4 k5
  have lo29 : (s.i 29).toInt ≤ (q.i 29).toInt := wt.2.2.2.2.2.1
  have t21 := hC.2.2.2.2.2.2.2.2.1.1
  have q54 := hC.2.2.2.2.2.2.2.2.1.2.2
  have n8 := hC.2.2.2.2.2.2.2.2.1.2.1
  have h8 := l8 n8
  have o1i : (R.o a 1).toInt = (P.i 54).toInt + 1 := by rw [g1', ad1 sj1 (by omega)]
  have s43 : (q.i 43).toInt = (s.i 43).toInt := by rw [nm4]
  have s56 : (q.i 56).toInt = (s.i 56).toInt := by rw [nm6]
  obtain ⟨c1, hc1⟩ : ∃ c1 : CEL, c1 = (c.1 + 1, a, T, ceG c + nGo (S.o c.2.1 0), ceW c + nWl (S.o c.2.1 0)) := ⟨_, rfl⟩
  have v1 : c1.1 = c.1 + 1 := by rw [hc1]
  have v2 : c1.2.1 = a := by rw [hc1]
  have v3 : ceT c1 = T := by rw [hc1]; rfl
  have v4 : ceG c1 = ceG c + nGo (S.o c.2.1 0) := by rw [hc1]; rfl
  have v5 : ceW c1 = ceW c + nWl (S.o c.2.1 0) := by rw [hc1]; rfl
  clear hc1
  have em2 : m = c.1 + 1 := by
    have a1 := q1.1
    rw [j53] at m1'
    omega
  have v4' : (ceG c1 : Int) = (q.i 43).toInt := by rw [v4, s43, t1]; omega
  have v5' : (ceW c1 : Int) = (q.i 56).toInt := by rw [v5, s56, t2]; omega
  have s20 : 0 ≤ (s.i 20).toInt := by
    have := hC.2.2.2.2.2.1.2.2.1.1
    omega
  have ord := STK.ord L c _ _ _ hC.2.1
  have hn : ∀ y ∈ c :: L, y.1 < c1.1 := fun y hy => by
    rcases List.mem_cons.mp hy with rfl | hy
    · omega
    · have := ord y hy
      omega
  have iar : IAR R u := by
    obtain ⟨⟨z1, z2⟩, z3⟩ := hC.2.2.2.2.2.2.2.2.2.1
    have e56' : R.i 56 = S.i 56 := r56.trans j56
    unfold IAR
    rw [e56']
    refine ⟨⟨fun z => ?_, fun z => ?_⟩, fun z => ?_⟩
    · obtain ⟨g', w1, w2⟩ := z1 z
      exact ⟨g', by omega, (tb.2.1 g' w1).1.trans w2⟩
    · obtain ⟨g', w1, w2⟩ := z
      by_cases cg : (g' : Int) < (s.i 43).toInt
      · exact z2 ⟨g', cg, (tb.2.1 g' cg).1.symm.trans w2⟩
      · exfalso
        by_cases gv : isGo v
        · have eg : (q.i 43).toInt = (g' : Int) := by
            have := nGo1 gv
            omega
          exact (na g' eg gv).1 w2
        · have := nGo.eq gv
          omega
    · obtain ⟨w1, w2, a', w3⟩ := z3 z
      exact ⟨by rw [r53, j53]; omega, w2, a', (ckall.2.1 _ (by omega)).trans w3⟩
  have lb : LBC R u (c :: L) (-1) := by
    have z := hC.2.2.2.1
    have z2 : LBC S s (c :: L) (-1) := by
      by_cases w : S.o c.2.1 0 = 303
      · rw [hx w] at z
        exact z
      · exact z.no w
    exact LBC.mv (c :: L) (-1) z2 (fun y hy => (hin.o ckall y hy).1) (fun y hy w => (tb.2.1 (ceG y) ((hin y hy).2.2.2.1 (Or.inl w))).2.2.1)
  have bs := hC.2.2.2.2.2.1.2.2.1.1
  refine ⟨c1, hC.push hin hT ev fr1 tb cd1 ⟨nu1.trans nm1, nu2.trans nm2, nu3.trans nm3, nu5.trans nm7, nu6.trans nm8, nu7.trans nm9⟩ (by omega) (by omega) ckall jP hinP eP fu (fun y hy hgo bb => ?_) ⟨by have := jp.1.1; omega, fun y hy ty => ?_, w1.wp.2⟩ ⟨sj1, sj3⟩ r54 r55 r52 (by rw [v2, g0, x38, j38]) (by rw [r53, j53]; omega) rte ⟨by omega, by rw [v2, g0]; exact nn.2.1, by omega, by rw [v2, g0]; exact nn.2.2.2⟩ (by omega) (by omega) (by rw [nu4]; omega) (by rw [nu4]; exact l38) up.1 up.2.1 up.2.2.1 up.2.2.2 (cst c1 (by rw [v1]; exact em2.symm) v2 v3 v4' v5') ⟨v1, by rw [v3, eo]; exact q3, by rw [v4, eo], by rw [v5, eo], by rw [v2, eo, o1i]; omega, by rw [v2, eo, g14]; exact k4, fun w => by rw [v2, eo, g14]; rw [eo] at w; exact (k5 w).2, fun w1 w2 w3 => by rw [v2, eo, g3]; rw [eo] at w1 w2 w3; exact hm w1 w2 w3, by rw [v2, g0]; exact nv.2.2.2.2.2.2⟩ low ?_ iar ⟨col, hcol c1 col v2 v3 v4' hn (hc.mv b0 hin ckall fr1 tb cd1) (hc.cof s20 hin ckall fr1) bs⟩ (by rw [v2]; exact o1i) (by rw [v2]; exact g14) (by rw [v2, g0]; exact nv.2.2.2.2.2.1) (fun w bb => ?_) (fun w => ?_) (r56.trans j56) (by rw [v2]; exact g3), ⟨?_, ?_, ?_⟩, v2, v3⟩
  · have lt := (hinP y hy).2.2.2.1 hgo
    have w' := tu.2.1 (ceG y) lt
    unfold flg
    rw [w'.2.2.2.2.1, w'.2.2.2.2.2.1]
  · rw [eoP y hy] at ty
    have w1 := wid1 (S.o y.2.1 0)
    have w2 := (hin y hy).2.2.1
    rw [(wf (ceT y) (by omega)).2.2.1]
    have := jp.1.2.1 y hy ty
    omega
  · unfold LBC
    rw [v2, if_neg (by rw [g0]; exact nv.1), if_neg (by
      rw [g0]
      intro z
      rcases z with z | z | z | z
      · exact nv.2.1 z
      · exact nv.2.2.1 z
      · exact nv.2.2.2.1 z
      · exact nv.2.2.2.2.1 z)]
    exact lb
  · rw [v2, g0] at w
    obtain ⟨-, y1, y2⟩ := na (ceG c1) v4'.symm w
    unfold flg
    rw [y1, y2]
    by_cases z : bb = 0
    · exact if_pos z
    · exact if_neg z
  · rw [v2, g0] at w
    rw [v3]
    exact hy w
  · rw [r53, j53, v1]
    have := q1.1
    omega
  · rw [v2, g0, v4', e43]
  · rw [v2, g0, v5', e56]
end
section
/-! both readers: lock -/
theorem TBK9.tr {s u w : RS} (h : TBK9 s u) (g : TBK9 u w) : TBK9 s w := by
  obtain ⟨⟨⟨a1, a2, a3, a4, a5, -, a7, a8, a9, a10⟩, r⟩, c⟩ := h
  obtain ⟨⟨⟨b1, b2, b3, b4, b5, -, b7, b8, b9, b10⟩, r2⟩, c2⟩ := g
  exact ⟨⟨⟨b1.trans a1, b2.trans a2, b3.trans a3, b4.trans a4, b5.trans a5, trivial, b7.trans a7, b8.trans a8, b9.trans a9, b10.trans a10⟩, r.tr r2 (by rw [a4]; exact Int.le_refl _) (by rw [a5]; exact Int.le_refl _) (by rw [a7]; exact Int.le_refl _)⟩, c.tr (c2.wk c.1)⟩
theorem ENV.dep {d : Int32} {S : CS} {s : RS} {v : Int32} (h : ENV d S s) (hv : v.toInt = (S.i 38).toInt + 1) (h54 : (S.i 38).toInt + 1 ≤ (S.i 54).toInt) : ENV d (CS.setI S 38 v) s := by
  refine h.gx (fun j _ _ h3 _ _ _ _ => ci_ne _ _ _ h3) ⟨rfl, rfl, rfl⟩ rfl rfl (h.ri.mv rfl rfl rfl rfl ⟨rfl, rfl, rfl⟩ h.ri.2.2.2.2.2.2 (Int.le_refl _)) ?_ h.t21
  obtain ⟨s1, s2, s3, s4, s5, s6⟩ := h.sj
  exact ⟨s1, s2, s3, s4, by show 0 ≤ v.toInt; omega, by show v.toInt ≤ (S.i 54).toInt; omega⟩
/-- a block's sign and its list, in the reference; the class opens the sign -/
theorem bl_open {N : Nat} (hN : 1000 ≤ N) {d : Int32} {T n K : Nat} {p f k y z : Int} {S P : CS} {s q U : RS} {R : Unit × CS} (hK : T + 1 ≤ K) (w : WAX d T p f k y z S s P q) (tq : tpI q = (K : Int)) (k64 : q.a 64 K = 3) (k65 : q.a 65 K = 0) (e1 : f_X1_open N P 123 = some R) (g : f_X12_parse_10 N n q = some U) : (¬ R.2.i 32 = 0 ∧ ¬ U.i 15 = 0) ∨ ∃ (m : Nat) (u : RS), f_X12_parse_10 N m u = some U ∧ WAX d T (p + 1) (f + 3) (k + 1) (y - 2) (z + 1) S s R.2 u ∧ FRB K q u ∧ TBK q u ∧ tpI u = ((K + 1 : Nat) : Int) ∧ FBL u K ∧ u.a 66 K = q.i 38 ∧ u.a 65 (K + 1) = 0 ∧ (u.i 59 = q.i 59 ∧ u.a 60 = q.a 60 ∧ u.a 61 = q.a 61 ∧ u.a 62 = q.a 62) ∧ u.a 44 = q.a 44 ∧ (q.i 17).toInt ≤ (u.i 17).toInt ∧ (q.i 11).toInt + 1 ≤ (u.i 11).toInt ∧ qe u = qe q := by
  obtain ⟨m2, V, hV, g2⟩ := rl_3 g tq w.1.1.2.1 k64
  unfold f_X12_block at hV
  obtain ⟨-, hV⟩ := hf_ite hV
  rw [tp_nat tq, if_pos k65] at hV
  obtain ⟨ob, hob, hV⟩ := hf_bind hV
  rw [ob_id] at hV
  have yo := y_open hN w.1 (c := 123) (d := 123) (Or.inl ⟨by decide, by decide⟩) (by decide) (by decide) (by decide) e1 hob
  rcases w.op hN (c := 123) (e := 123) (Or.inl ⟨by decide, by decide⟩) (by decide) (by decide) (by decide) e1 hob with ⟨o1, o2, o3⟩ | ⟨o1, w2, f2, i63, i38⟩
  · exact Or.inl ⟨o2, u_flt g2 (krf_f_X12_then N _ 1 1 V hV (show ¬ (RS.setA ob.2 66 K (ob.2.i 38)).i 15 = 0 from o3))⟩
  have qjo : qj ob.2 = qj q ∧ ob.2.i 20 = q.i 20 ∧ ob.2.a 22 = q.a 22 := by
    rcases yo with ⟨z, -⟩ | ⟨-, -, -, z, -, -, -, z2, z3, -⟩
    · rw [o1] at z
      exact absurd z (by decide)
    · exact ⟨z, z2, z3⟩
  have tob : tpI ob.2 = (K : Int) := by
    show (ob.2.i 63).toInt = (K : Int)
    rw [i63]
    exact tq
  obtain ⟨hV', t99⟩ := r_then (s := RS.setA ob.2 66 K (ob.2.i 38)) tob hV
  rw [hV'] at g2
  obtain ⟨u, hu⟩ : ∃ y, y = TH (RS.setA ob.2 66 K (ob.2.i 38)) K 1 1 := ⟨_, rfl⟩
  have evu : ENV d R.2 u := by rw [hu]; exact (setA_env (Or.inr (by omega)) w2.1).th
  have fu : FRB K ob.2 u := by rw [hu]; exact (setA_frb (Or.inr ⟨by omega, by omega, Nat.le_refl _⟩)).tr TH.frb
  have ku : TBK ob.2 u := by rw [hu]; exact (setA_tbk (by omega)).tr TH.tbk
  have iu : ∀ k : Nat, k ≠ 63 → u.i k = ob.2.i k := by
    rw [hu]
    exact fun k h => if_neg h
  have u64 : u.a 64 K = 3 := by
    rw [hu, TH.fk0 (Nat.le_refl K)]
    show ob.2.a 64 K = 3
    rw [(f2 (K + 1) K (by omega)).1]
    exact k64
  have u65 : u.a 65 K = 1 := by rw [hu]; exact TH.st
  have u66 : u.a 66 K = ob.2.i 38 := by
    rw [hu]
    show (RS.setA ob.2 66 K (ob.2.i 38)).a 66 K = ob.2.i 38
    exact setA_at
  have u641 : u.a 64 (K + 1) = 1 := by rw [hu]; exact TH.fk
  have u651 : u.a 65 (K + 1) = 0 := by rw [hu]; exact TH.fs
  have tu : tpI u = ((K + 1 : Nat) : Int) := by rw [hu]; exact TH.tp (u := RS.setA ob.2 66 K (ob.2.i 38)) tob (by omega)
  have pa : u.a 60 = ob.2.a 60 ∧ u.a 61 = ob.2.a 61 ∧ u.a 62 = ob.2.a 62 ∧ u.a 44 = ob.2.a 44 := by
    rw [hu]
    exact ⟨rfl, rfl, rfl, rfl⟩
  have quo : qe u = qe ob.2 := by rw [hu]; rfl
  rw [← hu] at g2
  clear hu hV'
  have phu : phI u = phI ob.2 := by
    unfold phI
    rw [iu 17 (by decide), iu 20 (by decide)]
  have w3 := w2.rs (f1 := 0) evu (fu.mo (by omega)) ku.t9 ⟨iu 11 (by decide), by omega, iu 17 (by decide), iu 19 (by decide)⟩
  obtain ⟨x59, x60, x61, x62, -⟩ := qj_p qjo.1
  have tbo : TBK q ob.2 := TBK.of qjo.1 (by rw [qjo.2.1]; exact Int.le_refl _) (fun j _ => by rw [qjo.2.2])
  have l17 : (q.i 17).toInt ≤ (ob.2.i 17).toInt := by
    rcases yo with ⟨z, -⟩ | ⟨-, -, -, -, -, z, -⟩
    · rw [o1] at z
      exact absurd z (by decide)
    · rw [z, t17_up (N := N) w.1]
      omega
  have l11 : (q.i 11).toInt + 1 ≤ (u.i 11).toInt := by
    rw [iu 11 (by decide)]
    rcases yo with ⟨z, -⟩ | ⟨-, -, -, -, -, -, z, -⟩
    · rw [o1] at z
      exact absurd z (by decide)
    · exact z
  exact Or.inr ⟨m2, u, g2, w3.nu (by omega) (by omega) (by omega) (by omega) (by omega), (f2 K).tr fu, tbo.tr ku, tu, ⟨u64, u65, u641⟩, u66.trans i38, u651, ⟨(iu 59 (by decide)).trans x59, pa.1.trans x60, pa.2.1.trans x61, pa.2.2.1.trans x62⟩, pa.2.2.2.trans (qj_44 qjo.1), by rw [iu 17 (by decide)]; exact l17, l11, quo.trans (kre_f_X12_open N q 123 ob hob)⟩
theorem TBR.rf (s : RS) : TBR s s := (TBZ.rf s).r
theorem CDK.rf (c : Int) (s : RS) : CDK c s s := ⟨Int.le_refl _, fun _ _ => rfl⟩
/-- a row more, with its list: nothing waits, no goal -/
theorem gen_list {d : Int32} {B : CS} {b : RS} {t0 T : Nat} {L : List CEL} {R : CS} {u : RS} {c c1 : CEL} {a : Nat} {v : Int32} (h : COR d B b t0 (c1 :: c :: L) (-9) R u) (ht : TOP R u c1) (v2 : c1.2.1 = a) (v3 : ceT c1 = T) (g0 : R.o a 0 = v) (nv : ¬ isOne v ∧ ¬ v = 305 ∧ ¬ v = 303 ∧ ¬ v = 218) (tu : tpI u = (T : Int) + (wid v : Int) - 1) (u64 : u.a 64 (T + wid v - 1) = 1) (u65 : u.a 65 (T + wid v - 1) = 0) (h36 : R.i 36 = 1) {J : List RVW → CS → RS → Prop} (hJ : J (vws R u (c1 :: c :: L)) R u) : NEW d B b t0 c L R u J := by
  have cd9 : cod c1 R u = -9 := by
    unfold cod
    rw [if_neg]
    intro z
    have z1 := z.1
    rw [v2, g0] at z1
    exact nv.2.2.1 z1
  refine ⟨c1, by rw [cd9]; exact h, ht, ⟨Or.inl ⟨?_, ?_, ?_, ?_, Or.inl ⟨?_, h36⟩, fun z => ?_⟩, Or.inr h36⟩, hJ⟩
  · rw [v2, g0]
    exact nv.1
  · rw [v2, g0]
    exact nv.2.1
  · rw [v2, g0, v3]
    exact tu
  · rw [v2, g0, v3]
    exact u64
  · rw [v2, g0, v3]
    exact u65
  · rw [v2, g0] at z
    exact absurd z nv.2.2.2
theorem RFR.nogo {S : CS} {s : RS} {c1 : CEL} {L : List CEL} {col : Nat → Option (Nat × Bool)} {b20 : Int} {v : Int32} (h : COL S s L col b20) (g0 : S.o c1.2.1 0 = v) (nv : v = 212 ∨ v = 213) : COL S s (c1 :: L) col b20 := by
  refine h.add ?_ ?_ ?_
  · rw [g0]
    rcases nv with h | h <;> rw [h] <;> unfold isGo <;> decide
  · rw [g0]
    rcases nv with h | h <;> rw [h] <;> decide
  · intro k z
    unfold PLF at z
    rw [g0] at z
    rcases nv with h | h <;> rw [h] at z <;> rcases z with ⟨z | z, -⟩ | ⟨z, -⟩ | ⟨z | z, -⟩ <;> exact absurd z (by decide)
set_option maxHeartbeats 4000000 in
/-- lock, from behind what it locks -/
theorem lk_58 {N : Nat} (hN : 1000 ≤ N) {d : Int32} {B : CS} {b : RS} {t0 T n : Nat} {L : List CEL} {x : Int} {S P : CS} {s q V U : RS} {c : CEL} {R : Unit × CS} {A : JBA} (hC : COR d B b t0 (c :: L) x S s) (q1 : TOP S s c) (q2 : LOW S s c) (q3 : T = ceT c + wid (S.o c.2.1 0)) (hT : t0 ≤ T) (hm : NMC c S) (hx : S.o c.2.1 0 = 303 → x = -1) (w : WAY d T 3 7 1 (-6) 3 S s P q) (jg : KU3 U s → JRW A U B b (vws S s (c :: L)) S s → JRG A U B b (vws S s (c :: L)) s [] (JQN U 1264 enL (pcC P) (pcR q) JQZ) (-2) (-3) P q) (k64 : q.a 64 T = 13) (e : f_X7_beginLock_58 N P = some R) (hV : f_X12_lock_94 N q = some V) (g : f_X12_parse_10 N n V = some U) : (¬ R.2.i 32 = 0 ∧ ¬ U.i 15 = 0) ∨ ∃ (m : Nat) (u : RS), f_X12_parse_10 N m u = some U ∧ NEW d B b t0 c L R.2 u (JTR A U B b (c :: L) S s) := by
  have hv := hC.1
  have t21 := hC.2.2.2.2.2.2.2.2.1.1
  have q54 := hC.2.2.2.2.2.2.2.2.1.2.2
  unfold f_X7_beginLock_58 at e
  obtain ⟨c22, e22, e⟩ := hf_bind e
  obtain ⟨c26, e26, e⟩ := hf_bind e
  obtain ⟨pp, epp, e⟩ := hf_bind e
  have hoc := hf_oc e
  have ex : ∃ a : Nat, pp.1 = some a ∧ ((f_X0_newTarget N pp.2).bind fun p40 => if oK p40.2 a 0 then some ((), CS.setI (CS.setO p40.2 a 9 p40.1) 38 ((p40.2.i 38) + 1)) else none) = some R := by
    rcases hoc with ⟨-, y⟩ | ⟨a, h1, h2⟩
    · obtain ⟨y1, -, y⟩ := hf_bind y
      cases y
    · exact ⟨a, h1, h2⟩
  clear e hoc
  obtain ⟨a, ra, e⟩ := ex
  obtain ⟨x40, ex40, e⟩ := hf_bind e
  obtain ⟨-, e⟩ := hf_ite e
  cases e
  have f26 : ¬ c26.2.i 32 = 0 → ¬ x40.2.i 32 = 0 := fun z => by
    have z1 : ¬ pp.2.i 32 = 0 := by rw [kF_X6_push N c26.2 212 _ _ pp epp z]; exact z
    rw [kF_X0_newTarget N pp.2 x40 ex40 z1]
    exact z1
  have f22 : ¬ c22.2.i 32 = 0 → ¬ x40.2.i 32 = 0 := fun z => f26 (by rw [kF_X1_open N c22.2 123 c26 e26 z]; exact z)
  show (¬ x40.2.i 32 = 0 ∧ ¬ U.i 15 = 0) ∨ ∃ (m : Nat) (u : RS), f_X12_parse_10 N m u = some U ∧ NEW d B b t0 c L (CS.setI (CS.setO x40.2 a 9 x40.1) 38 ((x40.2.i 38) + 1)) u (JTR A U B b (c :: L) S s)
  -- the reference
  unfold f_X12_lock_94 at hV
  obtain ⟨sh, hsh, hV⟩ := hf_bind hV
  rw [ob_id] at hV
  rcases w.cl hN hv (by omega) (c := 41) (e := 41) (Or.inl ⟨by decide, by decide⟩) (by decide) (by decide) (by decide) e22 hsh with ⟨o1, o2, o3⟩ | ⟨o1, w1, f1⟩
  · exact Or.inl ⟨f22 o2, u_flt g (krf_f_X12_then N _ 1 3 V hV (show ¬ (RS.setI sh.2 52 (sh.2.i 52 + 1)).i 15 = 0 from o3))⟩
  have tsh : tpI (RS.setI sh.2 52 (sh.2.i 52 + 1)) = (T : Int) := w1.2.1
  obtain ⟨hV', t99⟩ := r_then tsh hV
  rw [hV'] at g
  obtain ⟨y, hy⟩ : ∃ y, y = TH (RS.setI sh.2 52 (sh.2.i 52 + 1)) T 1 3 := ⟨_, rfl⟩
  have evy : ENV d c22.2 y := by rw [hy]; exact w1.1.s52.th
  have fy : FRB T sh.2 y := by rw [hy]; exact (show FRB T sh.2 (RS.setI sh.2 52 (sh.2.i 52 + 1)) from fun _ _ => ⟨rfl, rfl, rfl, rfl, rfl, rfl, rfl, rfl, rfl, rfl, rfl⟩).tr TH.frb
  have ky : TBK9 sh.2 y := by rw [hy]; exact TBK.s52 TH.tbk
  have iy : ∀ k : Nat, k ≠ 63 → k ≠ 52 → y.i k = sh.2.i k := by
    rw [hy]
    exact fun k h1 h2 => (show (TH (RS.setI sh.2 52 (sh.2.i 52 + 1)) T 1 3).i k = (RS.setI sh.2 52 (sh.2.i 52 + 1)).i k from if_neg h1).trans (if_neg h2)
  have y64 : y.a 64 T = 13 := by
    rw [hy, TH.fk0 (Nat.le_refl T)]
    show sh.2.a 64 T = 13
    rw [(f1 (T + 1) T (by omega)).1]
    exact k64
  have y65 : y.a 65 T = 1 := by rw [hy]; exact TH.st
  have y641 : y.a 64 (T + 1) = 3 := by rw [hy]; exact TH.fk
  have y651 : y.a 65 (T + 1) = 0 := by rw [hy]; exact TH.fs
  have ty : tpI y = ((T + 1 : Nat) : Int) := by rw [hy]; exact TH.tp tsh (by omega)
  have qy : qe (RS.setI y 52 (sh.2.i 52)) = qe sh.2 := by rw [hy]; rfl
  have y52 : y.i 52 = sh.2.i 52 + 1 := by rw [hy]; rfl
  have ya40 : y.a 40 = sh.2.a 40 := by rw [hy]; rfl
  rw [← hy] at g
  clear hy hV'
  have phy : phI y = phI sh.2 := by
    unfold phI
    rw [iy 17 (by decide) (by decide), iy 20 (by decide) (by decide)]
  have w2 := (w1.z (by omega)).x.rs (f1 := 0) evy fy ky ⟨iy 11 (by decide) (by decide), by omega, iy 17 (by decide) (by decide), iy 19 (by decide) (by decide)⟩
  rcases bl_open hN (Nat.le_refl _) w2 ty y641 y651 e26 g with ⟨z1, z2⟩ | ⟨m2, u, g2, w3, fu, ku, tu, fb, u66, u65, up, -, -, uy11, quy⟩
  · exact Or.inl ⟨f26 z1, z2⟩
  refine Or.inr ⟨m2, u, g2, ?_⟩
  have lo3 := w3.lo
  have sgP := w3.sg hv
  obtain ⟨a', m, ra', psr, evR, sq⟩ := w3.1.row (v := 212) ⟨by decide, by decide, by decide, by decide⟩ (w3.pay hv (by omega)) (by rw [if_neg (by decide), if_pos (by decide)]; omega) (by omega) epp
  have ea : a' = a := by
    rw [ra] at ra'
    cases ra'
    rfl
  rw [ea] at psr sq
  have p21 : (pp.2.i 21).toInt = (c26.2.i 21).toInt := by rw [psr.2.1 21 (by decide) (by decide)]
  obtain ⟨ev40, -, x21⟩ := evR.nt (by omega) ex40
  have evO : ENV d (CS.setO x40.2 a 9 x40.1) u := ev40.so (by decide)
  have sqO := (sq.nt ex40).so (k := 9) (w := x40.1) ⟨by decide, by decide, by decide, by decide⟩
  have i38' : x40.2.i 38 = c26.2.i 38 := by
    unfold f_X0_newTarget at ex40
    cases ex40
    show pp.2.i 38 = c26.2.i 38
    exact psr.2.1 38 (by decide) (by decide)
  obtain ⟨s1, s2, s3, s4, s5, s6⟩ := id w3.1.sj
  obtain ⟨-, ⟨r53, r54, -, -⟩, -⟩ := id sqO
  have hi := i11_hi w3.1
  have a38 : (x40.2.i 38 + 1).toInt = (c26.2.i 38).toInt + 1 := by
    rw [i38']
    exact ad1 s5 (by omega)
  have evD : ENV d (CS.setI (CS.setO x40.2 a 9 x40.1) 38 (x40.2.i 38 + 1)) u := evO.dep (by rw [a38]; show _ = (x40.2.i 38).toInt + 1; rw [i38']) (by show (x40.2.i 38).toInt + 1 ≤ _; rw [i38', r54]; omega)
  have sqD : PSQ c26.2 (CS.setI (CS.setO x40.2 a 9 x40.1) 38 (x40.2.i 38 + 1)) a m 212 (c26.2.i 50) := by
    obtain ⟨⟨c1, c2, c3, c4, c5, c6, c7, c8⟩, ⟨d1, d2, d3, d4⟩, ⟨e1, e2, e3⟩, h4, ⟨f0, f1, f3, f14⟩, h6⟩ := sqO
    exact ⟨⟨c1, c2, c3, c4, c5, c6, c7, c8⟩, ⟨d1, d2, d3, d4⟩, ⟨e1, e2, e3⟩, h4, ⟨f0, f1, f3, f14⟩, h6⟩
  have X21 : ((CS.setI (CS.setO x40.2 a 9 x40.1) 38 (x40.2.i 38 + 1)).i 21).toInt = (c26.2.i 21).toInt + 1 := by
    show (x40.2.i 21).toInt = _
    omega
  have X38 : ((CS.setI (CS.setO x40.2 a 9 x40.1) 38 (x40.2.i 38 + 1)).i 38).toInt = (c26.2.i 38).toInt + 1 := a38
  obtain ⟨X, hX⟩ : ∃ X, X = CS.setI (CS.setO x40.2 a 9 x40.1) 38 (x40.2.i 38 + 1) := ⟨_, rfl⟩
  have d38X : D38 (CS.setO x40.2 a 9 x40.1) X := by rw [hX]; exact ⟨⟨rfl, rfl, rfl, rfl, rfl⟩, rfl, rfl, rfl, rfl⟩
  have aX : X.a = x40.2.a := by rw [hX]; rfl
  have oX9 : X.o a 9 = x40.1 := by rw [hX]; exact so_at
  have oX2 : X.o a 2 = c26.2.i 38 := by
    rw [hX]
    show (CS.setO x40.2 a 9 x40.1).o a 2 = _
    rw [so_nk (by decide)]
    have z1 : x40.2.o a 2 = pp.2.o a 2 := by
      unfold f_X0_newTarget at ex40
      cases ex40
      rfl
    rw [z1]
    exact psh_o2 epp ra
  have n59 : NT5 x40.1 := by
    have z1 := w3.1.t21
    have z2 := (i11_hi w3.1).2
    exact (nt5r ex40 ⟨by rw [psr.2.1 21 (by decide) (by decide)]; exact z1.1, by rw [psr.2.1 21 (by decide) (by decide)]; omega⟩).1
  have X38' : (X.i 38).toInt = ((CS.setO x40.2 a 9 x40.1).i 38).toInt + 1 := by
    rw [hX]
    show (x40.2.i 38 + 1).toInt = (x40.2.i 38).toInt + 1
    rw [a38, i38']
  rw [← hX] at evD sqD X21 X38 ⊢
  clear hX
  obtain ⟨zX, ⟨R53, R54, -, -⟩, ⟨R50, R56, R36⟩, ⟨-, -, rr1⟩, ⟨g0, -, g3', -⟩, -⟩ := id sqD
  have c50 : c26.2.i 50 = S.i 50 := by
    have z1 := w3.1.2.1.1
    have z2 : u.i 38 = y.i 38 := ku.1.1.2.2.2.1
    have z3 : y.i 38 = sh.2.i 38 := iy 38 (by decide) (by decide)
    have z4 := w1.2.2.2.1.1.1.2.2.2.1
    have z5 := hv.2.1.1
    rw [z1, z2, z3, z4, z5]
  have u66' : u.a 66 (T + 1) = X.o a 3 := by
    rw [u66, g3', c50, iy 38 (by decide) (by decide), w1.2.2.2.1.1.1.2.2.2.1]
    exact hv.2.1.1.symm
  obtain ⟨c1, hc, ht, v2, v3⟩ := hC.gen q1 q2 q3 hT hm hx w3 (by omega) ⟨by decide, by decide, by decide, by decide, by decide, by decide, by unfold isKS isOne isTy; decide⟩ sqD (g3'.trans c50) (by rw [X38]; rfl) (FRB.rf _ _) (TBR.rf _) (CDK.rf _ _) ⟨rfl, rfl, rfl, rfl, rfl, rfl, rfl⟩ (by show _ = _ + ((0 : Nat) : Int); omega) (by show _ = _ + ((0 : Nat) : Int); omega) evD ⟨Int.le_refl _, by show phI s + 0 ≤ phI u; omega, Int.le_refl _, by have z9 := w3.2.2.2.2.2.2.1.2.2.2; show _ = _ + ((1 : Nat) : Int); omega⟩ (by rw [X21]; omega) (by rw [R54]; omega) ⟨rfl, rfl, rfl, rfl⟩ (fun c1 h1 h2 h3 _ _ => CST.pl (by rw [h1, h2]; exact rr1) (by rw [h1]; have := sqD.2.2.2.1.2.1; omega) (by rw [h2, h3]; exact RFR.m212 g0 ⟨by rw [(fu T (by omega)).1]; exact y64, by rw [(fu T (by omega)).2.1]; exact y65, fb, u66'⟩) (by rw [h2, g0]; decide) (by rw [h2, g0]; unfold isTy; decide)) (fun g _ z => absurd z (by unfold isGo; decide)) (fun z => absurd z (by unfold isTy; decide)) (fun c1 col h1 _ _ _ hcl _ _ => RFR.nogo hcl (by rw [h1]; exact g0) (Or.inl rfl))
  refine gen_list hc ht v2 v3 g0 ⟨by unfold isOne; decide, by decide, by decide, by decide⟩ (by rw [tu]; show _ = (T : Int) + ((3 : Nat) : Int) - 1; omega) fb.2.2 u65 (R36.trans w3.2.2.2.2.2.1.2.2.2) (fun ku3 jw => ?_)
  have hin := hC.inl q1 q3
  have ckall : CKZ S X := w3.2.2.2.2.1.tr w3.2.2.2.2.2.1.2.1 zX
  have veq : vws X u (c :: L) = vws S s (c :: L) := vws.eqf (T := T) (fun j hj => (w3.2.2.2.1.1.1 j hj).2.1) (c :: L) hC.o3 (fun y hy => (hin.o ckall y hy).1) (fun k t h1 h2 h3 => w3.2.2.1.fld k t h1 h2 h3) (fun y hy => by
    have z1 := wid1 (S.o y.2.1 0)
    have z2 := (hin y hy).2.2.1
    omega)
  show JRW A U B b (vw X u c1 :: vws X u (c :: L)) X u
  rw [veq]
  have pls : ∀ y ∈ vws S s (c :: L), y.2.2.1 < c1.1 := vws.pl hc
  have pa1 := psr.1.1
  have j1 := (jg ku3 jw).cls hN w.1 (by have := w.sg hv; omega) (c := 41) (c' := 41) (Or.inl ⟨by decide, by decide⟩) (by decide) (by decide) (by decide) e22 hsh o1
  have j2 := j1.cec 1 (kc_X1_open N c22.2 123 c26 e26) (ke_X1_open N c22.2 123 c26 e26) (by rw [evy.p44.1, w3.1.p44.1]; exact uy11)
  have n1 : NMV sh.2 (RS.setI u 52 (sh.2.i 52)) := by
    have z2 : u.i 38 = y.i 38 := ku.1.1.2.2.2.1
    refine ⟨show u.i 38 = sh.2.i 38 from z2.trans (iy 38 (by decide) (by decide)), fun j hj => ?_⟩
    show u.a 40 j = sh.2.a 40 j
    rw [(ku.1.2.1 j (by rw [iy 38 (by decide) (by decide)]; exact hj)).2.1, ya40]
  have j3 := j2.se (u := RS.setI u 52 (sh.2.i 52)) ((qe.s52 quy).trans qy) n1
  have j4 := j3.ce (R := pp.2) (ke_X6_push N c26.2 212 _ _ pp epp) (psr.2.1 21 (by decide) (by decide)) (by rw [pa1]) (by rw [pa1]) (psr.2.1 50 (by decide) (by decide)) (psr.2.1 44 (by decide) (by decide))
  have h44 : (pp.2.i 44).toInt ≤ 900 := by rw [psr.2.1 44 (by decide) (by decide), w3.1.p44.1]; exact hi.2
  have j5 := (j4.nt ex40 h44 (by omega)).ce (R := CS.setO x40.2 a 9 x40.1) rfl rfl rfl rfl rfl rfl
  have e40 : x40.2.i 20 = c26.2.i 20 := by
    unfold f_X0_newTarget at ex40
    cases ex40
    exact (pe_eq (ke_X6_push N c26.2 212 _ _ pp epp)).1
  have pcX : pcC X = pcC P := by
    have z1 : pcC c26.2 = pcC P := (pcC.pe (ke_X1_open N c22.2 123 c26 e26)).trans (pcC.pe (ke_X1_close N P 41 c22 e22))
    rw [← z1]
    unfold pcC
    rw [d38X.1.1]
    show (x40.2.i 20).toInt.toNat = _
    rw [e40]
  have pru : pcR u = pcR q := by
    have z1 : pcR sh.2 = pcR q := pcR.qe (kre_f_X12_shut N q 41 sh hsh)
    rw [← z1]
    have z2 := (qe_eq ((qe.s52 quy).trans qy)).1.1
    have z3 : u.i 20 = sh.2.i 20 := z2
    unfold pcR
    rw [z3]
  have hr : (vw X u c1).v = 212 := show X.o c1.2.1 0 = 212 by rw [v2]; exact g0
  have r9 : (vw X u c1).1 9 = x40.1 := show X.o c1.2.1 9 = x40.1 by rw [v2]; exact oX9
  have jl : jlv (vw X u c1).v = 1264 := by rw [hr]; rfl
  have en : ∀ (G : GHT) (ω h l : Nat), jen G ω (vw X u c1) h l = [enL h] := fun G ω h l => by
    unfold jen
    rw [hr, if_pos rfl]
    rfl
  have u52 : (u.i 52).toInt = ((RS.setI u 52 (sh.2.i 52)).i 52).toInt + 1 ∨ ¬ (0 ≤ (sh.2.i 52).toInt ∧ (sh.2.i 52).toInt ≤ 1000) := by
    rcases Decidable.em (0 ≤ (sh.2.i 52).toInt ∧ (sh.2.i 52).toInt ≤ 1000) with z | z
    · refine Or.inl ?_
      have z1 : u.i 52 = sh.2.i 52 + 1 := ((qe_eq quy).1.2.2.2.2.2).trans y52
      show (u.i 52).toInt = (sh.2.i 52).toInt + 1
      rw [z1, ad1 z.1 (by omega)]
    · exact Or.inr z
  have u19 := w3.2.2.2.2.2.2.1.2.2.2
  have s19 := hv.2.2.1.2.2
  have gkp : GKP s u := GKP.tbr w3.2.2.2.1.1 (by rw [w3.2.2.2.1.2.2.2.2.2.1]; exact Int.le_refl _)
  refine j5.psd (r := vw X u c1) (R0 := CS.setO x40.2 a 9 x40.1) (u0 := RS.setI u 52 (sh.2.i 52)) (0, 0, []) (fun z => z.ps (by rw [aX]; rfl) (by rw [aX]; rfl) (by rw [d32.yes (Or.inl hr)]; exact ((qe_eq quy).1.2.2.2.2.2).trans y52) (Int.le_refl _)) d38X D52.s52 ⟨by omega, fun y => by rcases y with y | y | y | y | y <;> rw [hr] at y <;> exact absurd y (by decide), ⟨fun y => by rcases y with y | y | y <;> rw [hr] at y <;> exact absurd y (by decide), fun y => absurd (hr.symm.trans y) (by decide), by rw [hr]; decide⟩, fun z => absurd (hr.symm.trans z) (by decide), by rw [hr]; decide, by rw [hr]; decide⟩ (Or.inl (by omega)) gkp (by omega) pls (fun y => ?_) (fun z => absurd (hr.symm.trans z) (by decide)) (by rw [hr]; decide) (fun k y => ?_) ?_ (fun y => ?_) ⟨fun _ => ⟨show X.o c1.2.1 2 = x40.2.i 38 by rw [v2, i38']; exact oX2, by rw [r9]; exact n59⟩, fun y => by rcases y with y | y | y | y <;> rw [hr] at y <;> exact absurd y (by decide), by omega, fun z => absurd (hr.symm.trans z) (by decide), by rw [hr]; decide⟩ (fun nm G' ω j _ ng fr wn hc' hh => ?_) (fun FC SF nm X' G' col YJ ω j Z _ hω r12 hc' hh k jr' cur => ?_)
  · rcases y with y | y | y | y <;> rw [hr] at y <;> exact absurd y (by decide)
  · unfold rsite at y
    rw [hr] at y
    rcases y with ⟨y, -⟩ | ⟨y, -⟩ | ⟨y, -⟩ | ⟨y, -⟩
    · rcases y with y | y | y <;> exact absurd y (by decide)
    · exact absurd y (by decide)
    · rcases y with y | y <;> exact absurd y (by decide)
    · rcases y with y | y <;> exact absurd y (by decide)
  · have e1 : rtgs (vw X u c1) = [x40.1] := by
      unfold rtgs
      rw [hr, if_neg (by decide), if_pos (by decide), r9]
    have e2 : ptl [tv x40.1] = [x40.1] := by
      show rtgs (tv x40.1) ++ [] = _
      rw [tv.tgs]
      rfl
    rw [e1]
    exact List.Perm.of_eq e2.symm
  · rcases y with y | y | y | y | y | y <;> rw [hr] at y <;> exact absurd y (by decide)
  · rw [en]
    have n52 : (j.c.length : Int) = (sh.2.i 52).toInt := ng.2.2.1
    have ml := msr_len j.c
    have h9 := (i11_hi hv).2
    have u52' := u52.resolve_right (fun z => z ⟨by omega, by omega⟩)
    refine ⟨ng.push (e := enL j.h) (by rw [aX]; rfl) (by rw [aX]; rfl) rfl rfl ?_ u52' ?_ ?_, hc'.lck (by omega), ?_⟩
    · rw [X38']
      show _ = _ + (if (0 : Nat) ≤ 3 then 1 else 0)
      rw [if_pos (by decide)]
    · show ((frs j.c + (if (0 : Nat) ≤ 3 then 1 else 0) : Nat) : Int) ≤ _
      rw [if_pos (by decide)]
      omega
    · exact (ng.2.2.2.d d38X D52.s52).cons (show ¬ (0 : Nat) = 2 by decide) (show ¬ (0 : Nat) = 4 by decide)
    · show ((2 * j.h + ((j.c.length + 1) + 3 * (ops j.c + 0)) : Nat) : Int) ≤ _
      have : ((2 * j.h + (j.c.length + 3 * ops j.c) : Nat) : Int) ≤ (s.i 11).toInt := hh
      omega
  · rw [en, jl, pcX, pru] at cur
    have e9 : ω + (j.l + 1264) - pcC P = ω + j.l + 1264 - pcC P := by omega
    have c2 := (cur (R36.trans w3.2.2.2.2.2.1.2.2.2)).1
    rw [e9] at c2
    exact ⟨k c2, JHH.no (by rw [hr]; decide)⟩
set_option maxHeartbeats 4000000 in
theorem st_lock {N : Nat} (hN : 1000 ≤ N) {d : Int32} {B : CS} {b : RS} {t0 T n : Nat} {L : List CEL} {x : Int} {S : CS} {s U : RS} {c : CEL} {p R : Unit × CS} {A : JBA} (hC : COR d B b t0 (c :: L) x S s) (hS : STO c T S s) (hT : t0 ≤ T) (hm : NMC c S) (hx : S.o c.2.1 0 = 303 → x = -1) (h43 : S.i 43 = 212) (e1 : f_X0_add N (CS.setI (CS.setI S 36 1) 24 ((S.i 24) + 1)) 51 0 = some p) (e : f_X7_beginLock N p.2 = some R) (g : f_X12_parse_10 N n s = some U) : (¬ R.2.i 32 = 0 ∧ ¬ U.i 15 = 0) ∨ ∃ (m : Nat) (u : RS), f_X12_parse_10 N m u = some U ∧ NEW d B b t0 c L R.2 u (JTR A U B b (c :: L) S s) := by
  obtain ⟨q1, q2, q3, q4, q5, q6⟩ := id hS
  have hv := hC.1
  have k10 := (tk_is hv (a := 212) (b := 422) (Or.inr ⟨by decide, by decide⟩) (by decide)).mp h43
  obtain ⟨m1, s1, g1, w0, a64, a65, i43, i10, ph3, i21, i11, jst⟩ := st_gj hC hS k10 (Or.inr (Or.inr (Or.inr (Or.inr (Or.inl ⟨rfl, rfl⟩))))) (by decide) e1 g
  unfold f_X7_beginLock at e
  obtain ⟨x1, ex1, e⟩ := hf_bind e
  obtain ⟨x5, ex5, e⟩ := hf_bind e
  obtain ⟨x9, ex9, e⟩ := hf_bind e
  have f58 : ∀ Y : CS, f_X7_beginLock_58 N Y = some R → ¬ Y.i 32 = 0 → ¬ R.2.i 32 = 0 := fun Y h z => by
    rw [kF_X7_beginLock_58 N Y R h z]
    exact z
  have cls : (x5.2.i 43 = 3 ∧ ∃ (x45 x49 : Unit × CS), f_X0_add N x5.2 53 (x5.2.i 45) = some x45 ∧ f_X9_advance N x45.2 = some x49 ∧ f_X7_beginLock_58 N x49.2 = some R) ∨ (¬ x5.2.i 43 = 3 ∧ ∃ (x14 x18 : Unit × CS), f_X1_expect N x5.2 224 = some x14 ∧ f_X7_throwNull N x14.2 = some x18 ∧ f_X7_beginLock_58 N x18.2 = some R) := by
    by_cases c3 : x5.2.i 43 = 3
    · rw [e_fnd1 c3] at ex9
      cases ex9
      rw [if_neg n10] at e
      obtain ⟨x45, ex45, e⟩ := hf_bind e
      obtain ⟨x49, ex49, e⟩ := hf_bind e
      exact Or.inl ⟨c3, x45, x49, ex45, ex49, e⟩
    · rw [e_fnd0 c3] at ex9
      cases ex9
      rw [if_pos rfl] at e
      obtain ⟨x14, ex14, e⟩ := hf_bind e
      obtain ⟨x18, ex18, e⟩ := hf_bind e
      exact Or.inr ⟨c3, x14, x18, ex14, ex18, e⟩
  have f5 : ¬ x5.2.i 32 = 0 → ¬ R.2.i 32 = 0 := fun z => by
    rcases cls with ⟨-, x45, x49, h1, h2, h3⟩ | ⟨-, x14, x18, h1, h2, h3⟩
    · have z1 : ¬ x45.2.i 32 = 0 := by rw [fst_add h1]; exact z
      refine f58 _ h3 ?_
      rw [kF_X9_advance N x45.2 x49 h2 z1]
      exact z1
    · have z1 : ¬ x14.2.i 32 = 0 := by rw [kF_X1_expect N x5.2 224 x14 h1 z]; exact z
      refine f58 _ h3 ?_
      rw [kF_X7_throwNull N x14.2 x18 h2 z1]
      exact z1
  -- the reference
  obtain ⟨m2, V, hV, g2⟩ := rl_13 g1 w0.2.1 w0.1.1.2.1 a64
  unfold f_X12_lock at hV
  obtain ⟨-, hV⟩ := hf_ite hV
  rw [tp_nat w0.2.1, if_pos a65] at hV
  obtain ⟨q, hq, hV⟩ := hf_bind hV
  obtain ⟨r, hr, hV⟩ := hf_bind hV
  have nz : ¬ p.2.i 43 = 0 := by rw [i43, h43]; decide
  obtain ⟨w2, f2⟩ := w0.nx hN nz ex1 hq
  have b94 : ∀ y : RS, f_X12_lock_94 N y = some V → ¬ y.i 15 = 0 → ¬ V.i 15 = 0 := fun y h z => krf_f_X12_lock_94 N y V h z
  rcases w2.op hN (c := 40) (e := 40) (Or.inl ⟨by decide, by decide⟩) (by decide) (by decide) (by decide) ex5 hr with ⟨o1, o2, o3⟩ | ⟨o1, w3, f3⟩
  · refine Or.inl ⟨f5 o2, u_flt g2 ?_⟩
    by_cases d1 : r.2.i 10 = 3
    · rw [if_pos d1, can_f o3, ob_some, if_pos rfl] at hV
      exact b94 _ hV o3
    · rw [if_neg d1] at hV
      by_cases d2 : r.2.i 10 = 434
      · rw [if_pos d2, can_f o3, ob_some, if_pos rfl] at hV
        exact b94 _ hV o3
      · rw [if_neg d2, can_f o3, ob_some, if_pos rfl] at hV
        exact b94 _ hV o3
  obtain ⟨ft2, -⟩ := FRB.ft (T := T) f2
  obtain ⟨ft3, -⟩ := FRB.ft (T := T) f3
  have ft := ft2.tr ft3
  have j4 : KU3 U s → JRW A U B b (vws S s (c :: L)) S s → JRG A U B b (vws S s (c :: L)) s [] (JQG U 1264 0 1 (pcC x5.2) (pcR r.2) JQZ) (-2) (-2) x5.2 r.2 := fun ku jw => by
    have z1 := jst.go jw (e := 1) (Or.inl rfl) hv.2.1.1
    have z2 := (z1.adw hN w0.1 (by rw [i43, h43]; decide) ex1 hq).opn hN w2.1 (c := 40) (c' := 40) (Or.inl ⟨by decide, by decide⟩) (by decide) (by decide) (by decide) ex5 hr o1
    have pc1 : pcC x5.2 = pcC p.2 := (pcC.pe (ke_X1_open N x1.2 40 x5 ex5)).trans (pcC.pe (ke_X9_advance N p.2 x1 ex1))
    have pr1 : pcR r.2 = pcR s1 := (pcR.qe (kre_f_X12_open N q 40 r hr)).trans (pcR.qe (kre_f_X12_next N s1 q hq))
    exact z2.imp (by omega) (by omega) (fun _ _ _ _ _ _ _ _ _ _ _ _ _ k => by rw [pc1, pr1]; exact k)
  have g44 : (x5.2.i 44).toInt = (r.2.i 11).toInt := by rw [w3.1.p44.1]
  have g6 := (i11_hi w3.1).2
  have r20 := w3.1.p20
  have s19 := hv.2.2.1.2.2
  have i3 := tk_is w3.1 (a := 3) (b := 3) (Or.inl ⟨by decide, by decide⟩) (by decide)
  have i434 := tk_is w3.1 (a := 224) (b := 434) (Or.inr ⟨by decide, by decide⟩) (by decide)
  have np3 := w3.2.2.2.2.2.2.1.2.1
  rcases cls with ⟨c3, x45, x49, h1, h2, h3⟩ | ⟨c3, x14, x18, h1, h2, h3⟩
  · have k3 := i3.mp c3
    rw [if_pos k3, y_can1 w3.1.1.2.1 (by rw [k3]; decide), ob_some, if_neg n10] at hV
    have hV' : f_X12_lock_50 N r.2 = some V := hV
    unfold f_X12_lock_50 f_X12_lock_90 at hV'
    rw [if_neg (show ¬ r.2.i 10 = 434 by rw [k3]; decide)] at hV'
    obtain ⟨em, hem, hV'⟩ := hf_bind hV'
    obtain ⟨nx, hnx, hV'⟩ := hf_bind hV'
    obtain ⟨w4, f4, -, -, -⟩ := (w3.ad h1).em (by omega) hem
    have z43 : x45.2.i 43 = 3 := (pj2_eq (kd_X0_add N x5.2 53 _ x45 h1)).2.2.2.2.2.2.2.1.trans c3
    obtain ⟨w5, f5'⟩ := w4.nx hN (by rw [z43]; decide) h2 hnx
    obtain ⟨ft4, -⟩ := FRB.ft (T := T) f4
    obtain ⟨ft5, -⟩ := FRB.ft (T := T) f5'
    have v45 : x5.2.i 45 = r.2.i 14 := w3.1.1.2.2.2.1.2.2.2.2.2 (Or.inr (Or.inl c3))
    exact lk_58 hN hC q1 q2 q3 hT hm hx (w5.nu (by omega) (by omega) (by omega) (by omega) (by omega)) (fun ku jw => by
      have z1 := (j4 ku jw).one (K' := JQN U 1264 enL (pcC x45.2) (pcR em.2) JQZ) h1 (by omega) (by omega) hem ⟨r20.1, by omega⟩ (fun FC SF nm X ω j Z pq a1 a2 b1 b2 b3 c1 c2 ng hc hh tyc tl hω k gu => k (by
        have gu' : GU FC SF U nm X (pcC x45.2) (pcR em.2) j.h (ω + j.l + 1264 - pcC x45.2) 0 ((0, j.h, 0, 0, 0, 0, 0) :: j.c) := gu
        rw [c1, c2] at gu'
        have p12 := pq.1
        have f19 := ng.2
        exact gi_UTak (pq.hc hc) pq.2.1 ⟨a1, b1, by rw [a2, b2, v45], rfl, by omega, ω + j.l + 1264 - (pcC x5.2 + 1), by omega, gu'⟩))
      have z2 := z1.adv hN w4.1 (by rw [z43]; decide) h2 hnx
      have pc1 : pcC x49.2 = pcC x45.2 := pcC.pe (ke_X9_advance N x45.2 x49 h2)
      have pr1 : pcR nx = pcR em.2 := pcR.qe (kre_f_X12_next N em.2 nx hnx)
      exact z2.imp (by omega) (by omega) (fun _ _ _ _ _ _ _ _ _ _ _ _ _ k => by rw [pc1, pr1]; exact k)) ((ft.tr (ft4.tr ft5)).1.trans a64) h3 hV' g2
  · have k3 : ¬ r.2.i 10 = 3 := fun z => c3 (i3.mpr z)
    rw [if_neg k3] at hV
    by_cases c4 : x5.2.i 43 = 224
    · have k4 := i434.mp c4
      rw [if_pos k4, y_can1 w3.1.1.2.1 (by rw [k4]; decide), ob_some, if_neg n10] at hV
      have hV' : f_X12_lock_50 N r.2 = some V := hV
      unfold f_X12_lock_50 f_X12_lock_90 at hV'
      rw [if_pos k4] at hV'
      obtain ⟨em, hem, hV'⟩ := hf_bind hV'
      obtain ⟨nx, hnx, hV'⟩ := hf_bind hV'
      have ea := e_exp1 c4 h1
      obtain ⟨w4, f4, -, -, -⟩ := w3.em (by omega) hem
      obtain ⟨w5, f5'⟩ := w4.nx hN (by rw [c4]; decide) ea hnx
      unfold f_X7_throwNull at h2
      obtain ⟨t1, et1, h2⟩ := hf_bind h2
      obtain ⟨t2, et2, h2⟩ := hf_bind h2
      cases h2
      obtain ⟨ft4, -⟩ := FRB.ft (T := T) f4
      obtain ⟨ft5, -⟩ := FRB.ft (T := T) f5'
      exact lk_58 hN hC q1 q2 q3 hT hm hx (((w5.ad et1).ad et2).nu (by omega) (by omega) (by omega) (by omega) (by omega)) (fun ku jw => by
        have z1 := (j4 ku jw).emt hem ⟨r20.1, by omega⟩
        have z2 := z1.adw hN w4.1 (by rw [c4]; decide) ea hnx
        have g44' : (x14.2.i 44).toInt = (nx.i 11).toInt := by rw [w5.1.p44.1]
        have g6' := (i11_hi w5.1).2
        have i1 : t1.2.i 44 = x14.2.i 44 := by
          unfold f_X0_add at et1
          cases et1
          rfl
        have z3 := (z2.add et1 (by omega) (by omega)).add et2 (by rw [i1]; omega) (by omega)
        have pc1 : pcC x14.2 = pcC x5.2 := pcC.pe (ke_X1_expect N x5.2 224 x14 h1)
        have k3' := ku.2
        exact z3.imp (by omega) (by omega) (fun FC SF nm X ω j Z hc hh tyc tl hω r12 k _ => by
          obtain ⟨⟨s1', s2', s3', s4'⟩, ⟨t1', t2', t3', t4'⟩, ⟨u1, u2, u3, u4, u5⟩, kk⟩ := k
          rw [t4'] at s1' s2' s3'
          rw [pc1] at s1' s2' s3' t1' t2' t3'
          have pq : PQX SF U (pcC x5.2) (pcR r.2) := ⟨t3', u4⟩
          have h9 := (i11_hi hv).2
          have e1' : (1 : Int32).toInt = 1 := by decide
          exact kk (gi_URa0 (pq.hc hc) pq.2.1 ⟨ω + j.t, by omega, by omega, tyc, t1', t2', s1', s3', u1, by rw [s2', u2], by rw [s2', e1']; omega, by rw [s2', e1']; omega⟩))) ((ft.tr (ft4.tr ft5)).1.trans a64) h3 hV' g2
    · have k4 : ¬ r.2.i 10 = 434 := fun z => c4 (i434.mpr z)
      rw [if_neg k4] at hV
      obtain ⟨ff, hf, hV⟩ := hf_bind hV
      obtain ⟨fa, fb⟩ := y_can0 hf
      rw [if_pos fa] at hV
      refine Or.inl ⟨f58 _ h3 ?_, u_flt g2 (b94 _ hV fb)⟩
      have z1 := y_ex0 c4 h1
      rw [kF_X7_throwNull N x14.2 x18 h2 z1]
      exact z1
end
section
/-! both readers: switch as a statement -/
theorem setA_i {s : RS} {k j : Nat} {v : Int32} : (RS.setA s k j v).i = s.i := rfl
theorem em_x {N : Nat} {s : RS} {o x : Int32} {V : Int32 × RS} (h : f_X12_emit N s o x = some V) (q : 0 ≤ (s.i 20).toInt ∧ (s.i 20).toInt < 3000) : V.2.a 22 (s.i 20).toNatClampNeg = x := by
  have e3 : (3000 : Int32).toInt = 3000 := by decide
  unfold f_X12_emit f_X12_emit_21 at h
  by_cases c : (3000 : Int32) ≤ s.i 20
  · have := le_int c
    omega
  · rw [if_neg c] at h
    obtain ⟨hib, h⟩ := hf_ite h
    cases h
    show upd (s.a 22) (s.i 20).toNatClampNeg x (s.i 20).toNatClampNeg = x
    exact if_pos rfl
theorem i20_h2 {d : Int32} {S : CS} {s : RS} (h : ENV d S s) : 0 ≤ (s.i 20).toInt ∧ (s.i 20).toInt < 3000 := by
  have r1 := h.2.2.2.2.2.2.1
  have r2 := h.2.2.2.2.2.2.2.1
  have r3 := h.2.2.2.2.2.2.2.2.1
  have hi := i11_hi h
  unfold phI at r2
  omega
theorem WAX.tk {d : Int32} {T : Nat} {p f k y z p1 f1 k1 : Int} {S P R : CS} {s q u : RS} (h : WAX d T p f k y z S s P q) (ev : ENV d R u) (fr : FRB T q u) (tb : TBK9 q u) (pjR : pj R = pj P) (e22 : R.i 22 = P.i 22) (e18 : A18 P R) (n : (q.i 11).toInt + p1 ≤ (u.i 11).toInt ∧ phI q + f1 ≤ phI u ∧ (q.i 17).toInt ≤ (u.i 17).toInt ∧ (u.i 19).toInt = (q.i 19).toInt + k1) (hp : 0 ≤ p1) : WAX d T (p + p1) (f + f1) (k + k1) (y - 2 * p1) (z + p1) S s R u := by
  have ck := CKX.of pjR e22 e18
  obtain ⟨h1, -, h3, ⟨h4, h5, ⟨a1, a2, a3, a4, -, a6, a7, a8, a9⟩⟩, h6', ⟨i1, i3, i4, i5⟩, ⟨n1, n2, n3, n4⟩, ⟨r1, r2, r3⟩, ⟨l1, l2⟩⟩ := h
  obtain ⟨⟨⟨t1, t2, t3, t4, t5, t6, t7, t8, t9, t10⟩, tr⟩, tc⟩ := tb
  obtain ⟨⟨b1, b2, b3, b4, b5, b6⟩, -⟩ := id ck
  have e21 := pj_21 pjR
  have e54 := pj_54 pjR
  have e55 := (pj_eq pjR).2.2.2.2.2.2.2.2.2.2.2.2.2.2.2.2.1
  exact ⟨ev, trivial, h3.tr fr, ⟨h4.tr tr l1 (by rw [a4]; exact Int.le_refl _) (by rw [a6]; exact Int.le_refl _), h5.tr (tc.wk h5.1), ⟨t1.trans a1, t2.trans a2, t3.trans a3, t5.trans a4, trivial, t7.trans a6, t8.trans a7, t9.trans a8, t10.trans a9⟩⟩, h6'.tr i3 ck.z, ⟨b3.trans i1, b5.trans i3, b6.trans i4, b2.trans i5⟩, ⟨by omega, by omega, by omega, by omega⟩, ⟨by rw [e21]; omega, by rw [e54]; omega, by rw [e55]; omega⟩, ⟨by rw [t4]; exact l1, fun w => by rw [t4]; have := l2 w; omega⟩⟩
/-- a switch's row more -/
theorem COL.sw {R : CS} {s u : RS} {L : List CEL} {c1 : CEL} {col : Nat → Option (Nat × Bool)} {b20 : Int} (h : COL R u L col b20) (cf : COF s R u L col) (hb : b20 ≤ (s.i 20).toInt) (g0 : R.o c1.2.1 0 = 218) (hn : ∀ y ∈ L, y.1 < c1.1) (gh : (u.a 48 (ceG c1)).toInt < 0 ∧ (u.a 49 (ceG c1)).toInt < 0) (k0 : (s.i 20).toInt ≤ (u.a 66 (ceT c1)).toInt ∧ (u.a 66 (ceT c1)).toInt < (u.i 20).toInt) : COL R u (c1 :: L) col b20 := by
  obtain ⟨h1, h2, h3, h4, h5, h6, h7⟩ := h
  obtain ⟨f1, f2, f3⟩ := cf
  have np : ∀ k : Int, ¬ PLF R u c1 k := fun k z => by
    unfold PLF at z
    rw [g0] at z
    rcases z with ⟨z | z, -⟩ | ⟨z, -⟩ | ⟨z | z, -⟩ <;> exact absurd z (by decide)
  refine ⟨h1, h2, fun c hc q => ?_, fun k g e q => ?_, fun c hc q => ?_, fun c hc q hq t1 t2 l => ?_, fun c hc k p => ?_⟩
  · rcases List.mem_cons.mp hc with rfl | hc
    · exact ⟨Or.inl gh.1, Or.inl gh.2⟩
    · exact h3 c hc q
  · obtain ⟨c, hc, g1, g2⟩ := h4 k g e q
    exact ⟨c, List.mem_cons_of_mem _ hc, g1, g2⟩
  · rcases List.mem_cons.mp hc with rfl | hc
    · exact ⟨by omega, k0.2, f1 _ k0.1⟩
    · exact h5 c hc q
  · rcases List.mem_cons.mp hc with rfl | hc2
    · exfalso
      rcases List.mem_cons.mp hq with e0 | hq2
      · rw [e0] at l
        omega
      · have := hn q hq2
        omega
    · rcases List.mem_cons.mp hq with e0 | hq2
      · have := f2 c hc2 t1
        rw [e0]
        omega
      · exact h6 c hc2 q hq2 t1 t2 l
  · rcases List.mem_cons.mp hc with rfl | hc2
    · exact absurd p (np k)
    · obtain ⟨z1, z2, z3, z4⟩ := h7 c hc2 k p
      refine ⟨z1, z2, z3, fun q hq t => ?_⟩
      rcases List.mem_cons.mp hq with e0 | hq2
      · have := f3 c hc2 k p
        rw [e0]
        omega
      · exact z4 q hq2 t
theorem sv5.v {y : Int32} : (sv5 y).v = 995 := rfl
theorem sv5.site {y : Int32} {k : Nat} : rsite (sv5 y) k ↔ (k : Int) = y.toInt := by
  constructor
  · intro h
    rcases h with ⟨h, -⟩ | ⟨h, -⟩ | ⟨h, -⟩ | ⟨-, h⟩
    · rcases h with h | h | h <;> exact absurd h (by rw [sv5.v]; decide)
    · exact absurd h (by rw [sv5.v]; decide)
    · rcases h with h | h <;> exact absurd h (by rw [sv5.v]; decide)
    · exact h
  · exact fun h => Or.inr (Or.inr (Or.inr ⟨Or.inr rfl, h⟩))
theorem sv5.ty {y : Int32} : ¬ isTyv (sv5 y) := fun e => by
  rcases e with z | z | z | z <;> exact absurd z (by rw [sv5.v]; decide)
theorem sv5.tgs {y : Int32} : rtgs (sv5 y) = [] := by
  unfold rtgs
  rw [sv5.v, if_neg (by decide), if_neg (by decide), if_neg (by decide), if_neg (by decide), if_neg (by decide)]
theorem FGP.sv5 {y : Int32} {V : List RVW} {col : Nat → Option (Nat × Bool)} {b s U : RS} (h : FGP (sv5 y :: V) col b s U) (hy : (s.i 20).toInt ≤ y.toInt) : FGP V col b s U := by
  obtain ⟨h1, h4, h5, h6, h7⟩ := h
  refine ⟨h1, fun j j1 j2 => ⟨(h4 j j1 j2).1, fun q => (h4 j j1 j2).2.1 (fun p => q (p.nt (fun z => by have := sv5.site.mp z; omega))), fun q => (h4 j j1 j2).2.2 (fun p => q ?_)⟩, fun j j1 j2 => ⟨(h5 j j1 j2).1, (h5 j j1 j2).2.1, fun q => (h5 j j1 j2).2.2.1 (fun p => q (p.nt (by rw [sv5.v]; decide))), (h5 j j1 j2).2.2.2⟩, fun j j1 j2 q => h6 j j1 j2 (fun p => q (p.nt sv5.ty)), fun j j1 j2 => ⟨(h7 j j1 j2).1, (h7 j j1 j2).2.1, (h7 j j1 j2).2.2.1, fun q => (h7 j j1 j2).2.2.2 (fun p => q (p.nt sv5.ty))⟩⟩
  obtain ⟨r, hr, p1, p2⟩ := p
  rcases List.mem_cons.mp hr with e | hr
  · exfalso
    rw [e] at p2
    have p3 : (j : Int) = y.toInt := p2
    omega
  · exact ⟨r, hr, p1, p2⟩
/-- a switch's head in the reference: its second and third words wait -/
theorem JRG.emh {A : JBA} {U : RS} {B : CS} {b : RS} {V0 : List RVW} {s0 : RS} {W : List RVW} {K : JKT} {a e : Int} {S : CS} {s : RS} {N : Nat} {o x : Int32} {V : Int32 × RS} (h : JRG A U B b V0 s0 W K a e S s) (hz : f_X12_emit N s o x = some V) (h20 : 0 ≤ (s.i 20).toInt ∧ (s.i 20).toInt < 3000) : JRG A U B b V0 s0 (sv5 V.1 :: W) (fun FC SF nm X ω j Z => (U.a 21 (pcR s) = o ∧ V.1.toNatClampNeg = pcR s ∧ (((pcR s : Nat) : Int) < (U.i 20).toInt ∧ (U.i 20).toInt ≤ 3000) ∧ pcR V.2 = pcR s + 1) ∧ K FC SF nm X ω j Z) a e S V.2 := by
  intro crB
  obtain ⟨b1, ⟨b2, n8⟩, b3, b4, Ψ, G, col, YJ, sax, ⟨pin, pin0⟩, tgi, jsi, main⟩ := h crB
  obtain ⟨m1, m2, m3, m4, m5, m6⟩ := cd_emit hz h20.1 h20.2
  obtain ⟨Ψ', x1, ⟨x2, nk⟩, x3, sat, xn, -⟩ := (jsp_emt (U := U) (s0 := s0) (K := K) (K' := K) (y := -1) hz h20 (Or.inl rfl) (fun _ _ _ _ _ _ _ _ _ _ _ _ _ _ _ _ _ _ _ k => k) : JSP (-1) a e 0 0 U s0 K K S s S V.2) (crB.rms b1)
  have lb := b3.1.1
  have l4 := b4.1.1
  have pin' := pin.up x3
  have ey : V.1.toInt = (s.i 20).toInt := by rw [m2]
  have nco : ∀ k : Nat, (s.i 20).toInt ≤ (k : Int) → col k = none ∧ ∀ q ∈ V0, ¬ rsite q k := fun k hk => ⟨by
    cases ec : col k with
    | none => rfl
    | some x =>
      have := pin.1 k (Or.inl (by rw [ec]; exact fun z => by (cases z)))
      omega, fun q hq p => by
    have := pin0.1 k (Or.inr ⟨q, hq, p⟩)
    omega⟩
  have tg : ptl ((sv5 V.1 :: W) ++ V0) = ptl (W ++ V0) := by
    show rtgs (sv5 V.1) ++ ptl (W ++ V0) = _
    rw [sv5.tgs]
    rfl
  refine ⟨b1, ⟨b2, n8.nk nk⟩, b3.tr (x3.wk lb), b4.tr (x3.wk l4), GPS.an Ψ Ψ', G, col, YJ, (sax.an sat (MNO.ofk b1 b3) (MNO.ofk x1 x3) pin.2.2.1).nt sv5.ty, ⟨⟨fun k q => ?_, fun k q => pin'.2.1 k (q.nt (by rw [sv5.v]; decide)), fun k q => pin'.2.2.1 k (q.nt sv5.ty), fun k q => pin'.2.2.2 k (q.nt sv5.ty)⟩, pin0⟩, ?_, ⟨jsi.1.mv (rjw.n (fun z => absurd z.1 (by rw [sv5.v]; decide))) (fun r hr => (List.mem_cons.mp hr).elim (fun z => Or.inr (fun k q => by rw [z] at q; exact nco k (by have := sv5.site.mp q; omega))) Or.inl) b4 (x3.wk l4) (fun _ _ q => q.1), jsi.2.1, jsi.2.2.1.cs (rhd.no (by rw [sv5.v]; decide)), jsi.2.2.2.kd x1 x3⟩, ?_⟩
  · by_cases z : rsite (sv5 V.1) k
    · have := sv5.site.mp z
      omega
    · exact pin'.1 k (q.nt z)
  · unfold TGI at tgi ⊢
    rw [tg]
    exact tgi
  intro FC SF nm X h0 ω c0 psi ng0 hc0 hh0 hω
  obtain ⟨⟨ng, hc, hh, wn⟩, mn⟩ := main FC SF nm X h0 ω c0 psi.1 ng0 hc0 hh0 hω
  refine ⟨⟨⟨xn FC nm _ psi.2 ng.2 ng.1, ng.2⟩, hc, hh, wn.mv x1.2.2.2.1.1 (fun r hr hv => (List.mem_cons.mp hr).resolve_left (fun z => by rw [z] at hv; exact absurd hv (WGD.no (show ¬ (995 : Int32) = 996 by decide) rfl)))⟩, fun fc fg hA tyc jr => ?_⟩
  have fg1 : FGP (W ++ V0) col b s U := FGP.sv5 (fg.fst x3 (Int.le_refl _)) (by omega)
  have ps : ((pcR s : Nat) : Int) = (s.i 20).toInt := Int.toNat_of_nonneg h20.1
  have f := (fg.2.1 (pcR s) (by omega) (by omega)).1
  have f1 := fg.1
  have e9 : pcR V.2 = pcR s + 1 := by
    unfold pcR
    rw [m3]
    omega
  have e8 : V.1.toNatClampNeg = pcR s := by rw [m2]; rfl
  exact ⟨⟨f.trans m4, e8, ⟨by omega, f1.2.2⟩, e9⟩, mn (fc.pl (fun z hz => by rw [tg] at hz; exact hz)) fg1 hA tyc jr⟩
set_option maxHeartbeats 4000000 in
theorem st_switch {N : Nat} (hN : 1000 ≤ N) {E1 : CS → Option (Unit × CS)} {E2 : CS → Option (Int32 × CS)} (hm1 : ∀ σ, Kf (CS.i σ 32) (E1 σ)) (hm2 : ∀ σ, Kf (CS.i σ 32) (E2 σ)) (hE : SXR N 18 E1) {d : Int32} {B : CS} {b : RS} {t0 T n : Nat} {L : List CEL} {x : Int} {S : CS} {s U : RS} {c : CEL} {p R : Unit × CS} {Aj : JBA} (hC : COR d B b t0 (c :: L) x S s) (hS : STO c T S s) (hT : t0 ≤ T) (hm : NMC c S) (hx : S.o c.2.1 0 = 303 → x = -1) (h43 : S.i 43 = 218) (e1 : f_X0_add N (CS.setI (CS.setI S 36 1) 24 ((S.i 24) + 1)) 51 0 = some p) (e : f_X7_beginSwitch N E1 E2 p.2 = some R) (g : f_X12_parse_10 N n s = some U) : (¬ R.2.i 32 = 0 ∧ ¬ U.i 15 = 0) ∨ ∃ (m : Nat) (u : RS), f_X12_parse_10 N m u = some U ∧ NEW d B b t0 c L R.2 u (JTR Aj U B b (c :: L) S s) := by
  obtain ⟨q1, q2, q3, q4, q5, q6⟩ := id hS
  have hv := hC.1
  have t21 := hC.2.2.2.2.2.2.2.2.1.1
  have q54 := hC.2.2.2.2.2.2.2.2.1.2.2
  have k10 := (tk_is hv (a := 218) (b := 428) (Or.inr ⟨by decide, by decide⟩) (by decide)).mp h43
  obtain ⟨m1, s1, g1, w0, a64, a65, i43, i10, ph3, i21, i11, jst⟩ := st_gj hC hS k10 (Or.inr (Or.inr (Or.inr (Or.inr (Or.inr (Or.inl ⟨rfl, rfl⟩)))))) (by decide) e1 g
  -- the class, taken apart
  unfold f_X7_beginSwitch at e
  obtain ⟨c1', ec1, e⟩ := hf_bind e
  obtain ⟨c5, ec5, e⟩ := hf_bind e
  obtain ⟨c9, ec9, e⟩ := hf_bind e
  obtain ⟨c13, ec13, e⟩ := hf_bind e
  obtain ⟨c17, ec17, e⟩ := hf_bind e
  obtain ⟨pp, epp, e⟩ := hf_bind e
  have hoc := hf_oc e
  have ex : ∃ a : Nat, pp.1 = some a ∧ ((f_X0_newTarget N pp.2).bind fun p31 => if oK p31.2 a 0 then (f_X0_newTarget N (CS.setO p31.2 a 10 p31.1)).bind fun p36 => if oK p36.2 a 0 then (f_X0_add N (CS.setO (CS.setO p36.2 a 9 p36.1) a 13 (p36.2.i 22)) 30 (CS.o (CS.setO (CS.setO p36.2 a 9 p36.1) a 13 (p36.2.i 22)) a 10)).bind fun p41 => some ((), p41.2) else none else none) = some R := by
    rcases hoc with ⟨-, y⟩ | ⟨a, h1, h2⟩
    · obtain ⟨y1, -, y⟩ := hf_bind y
      cases y
    · exact ⟨a, h1, h2⟩
  clear e hoc
  obtain ⟨a, ra, e⟩ := ex
  obtain ⟨x31, ex31, e⟩ := hf_bind e
  obtain ⟨-, e⟩ := hf_ite e
  obtain ⟨x36, ex36, e⟩ := hf_bind e
  obtain ⟨-, e⟩ := hf_ite e
  obtain ⟨x41, ex41, e⟩ := hf_bind e
  cases e
  have f17 : ¬ c17.2.i 32 = 0 → ¬ x41.2.i 32 = 0 := fun z => by
    have z1 : ¬ pp.2.i 32 = 0 := by rw [kF_X6_push N c17.2 218 _ _ pp epp z]; exact z
    have z2 : ¬ x31.2.i 32 = 0 := by rw [kF_X0_newTarget N pp.2 x31 ex31 z1]; exact z1
    have z3 : ¬ x36.2.i 32 = 0 := by rw [kF_X0_newTarget N _ x36 ex36 (show ¬ (CS.setO x31.2 a 10 x31.1).i 32 = 0 from z2)]; exact z2
    rw [fst_add ex41]
    exact z3
  have f13 : ¬ c13.2.i 32 = 0 → ¬ x41.2.i 32 = 0 := fun z => f17 (by rw [kF_X1_open N c13.2 123 c17 ec17 z]; exact z)
  have f9 : ¬ c9.2.i 32 = 0 → ¬ x41.2.i 32 = 0 := fun z => f13 (by rw [kF_X1_close N c9.2 41 c13 ec13 z]; exact z)
  have f5 : ¬ c5.2.i 32 = 0 → ¬ x41.2.i 32 = 0 := fun z => f9 (by rw [kF_X1_expression N E1 E2 hm1 hm2 c5.2 c9 ec9 z]; exact z)
  show (¬ x41.2.i 32 = 0 ∧ ¬ U.i 15 = 0) ∨ ∃ (m : Nat) (u : RS), f_X12_parse_10 N m u = some U ∧ NEW d B b t0 c L x41.2 u (JTR Aj U B b (c :: L) S s)
  -- the reference, to its value
  obtain ⟨m2, V, hV, g2⟩ := rl_14 g1 w0.2.1 w0.1.1.2.1 a64
  unfold f_X12_groups at hV
  obtain ⟨-, hV⟩ := hf_ite hV
  rw [tp_nat w0.2.1, if_pos a65] at hV
  obtain ⟨q, hq, hV⟩ := hf_bind hV
  obtain ⟨r, hr, hV⟩ := hf_bind hV
  rw [ob_id] at hV
  obtain ⟨w2, f2⟩ := w0.nx hN (by rw [i43, h43]; decide) ec1 hq
  rcases w2.op hN (c := 40) (e := 40) (Or.inl ⟨by decide, by decide⟩) (by decide) (by decide) (by decide) ec5 hr with ⟨o1, o2, o3⟩ | ⟨o1, w3, f3⟩
  · exact Or.inl ⟨f5 o2, u_flt g2 (krf_f_X12_then N r.2 1 16 V hV o3)⟩
  have np3 := w3.2.2.2.2.2.2.1.2.1
  rcases y_expr hN hm1 hm2 hE w3.1 w3.2.1 (by omega) ec9 hV g2 with ⟨z1, z2⟩ | ⟨m3, u0, g3, xo, xc⟩
  · exact Or.inl ⟨f9 z1, z2⟩
  have w4 := w3.exo xo
  obtain ⟨ft2, -⟩ := FRB.ft (T := T) f2
  obtain ⟨ft3, -⟩ := FRB.ft (T := T) f3
  obtain ⟨ft4, u65⟩ := xo.ft
  have u64 : u0.a 64 T = 14 := ((ft2.tr ft3).tr ft4).1.trans a64
  obtain ⟨m4, V4, hV4, g4⟩ := rl_14 g3 w4.2.1 w4.1.1.2.1 u64
  unfold f_X12_groups at hV4
  obtain ⟨-, hV4⟩ := hf_ite hV4
  rw [tp_nat w4.2.1, if_neg (show ¬ u0.a 65 T = 0 by rw [u65]; decide), if_pos u65] at hV4
  obtain ⟨sh, hsh, hV4⟩ := hf_bind hV4
  obtain ⟨em, hem, hV4⟩ := hf_bind hV4
  obtain ⟨o, ho, hV4⟩ := hf_bind hV4
  obtain ⟨ob, hob, hV4⟩ := hf_bind hV4
  cases hV4
  rcases w4.cl hN hv (by omega) (c := 41) (e := 41) (Or.inl ⟨by decide, by decide⟩) (by decide) (by decide) (by decide) ec13 hsh with ⟨o1', o2, o3⟩ | ⟨o1', w5, f5'⟩
  · refine Or.inl ⟨f13 o2, u_flt g4 ?_⟩
    show ¬ ob.2.i 15 = 0
    have z1 : ¬ em.2.i 15 = 0 := krf_f_X12_emit N sh.2 28 (-1) em hem o3
    have z2 : ¬ o.2.i 15 = 0 := krf_f_X12_goal N _ 1 0 o ho z1
    exact krf_f_X12_open N _ 123 ob hob z2
  have np5 := w5.2.2.2.2.2.2.1.2.1
  have ix := em_x hem (i20_h2 w5.1)
  obtain ⟨w6, f6, e20, n20, -⟩ := w5.em (by omega) hem
  obtain ⟨ft5, -⟩ := FRB.ft (T := T) f5'
  obtain ⟨ft6, -⟩ := FRB.ft (T := T) f6
  have em64 : em.2.a 64 T = 14 := (ft5.tr ft6).1.trans u64
  have w7 : WAY d T 4 8 0 (-6) 3 S s c13.2 (RS.setA (RS.setA (RS.setA (RS.setA (RS.setA em.2 66 T em.1) 67 T (-1)) 68 T 0) 70 T 1) 71 T (em.2.i 38)) := (((((w6.sa (j := 66) (v := em.1) ⟨by omega, by omega⟩).sa (j := 67) (v := -1) ⟨by omega, by omega⟩).sa (j := 68) (v := 0) ⟨by omega, by omega⟩).sa (j := 70) (v := 1) ⟨by omega, by omega⟩).sa (j := 71) (v := em.2.i 38) ⟨by omega, by omega⟩).nu (by omega) (by omega) (by omega) (by omega) (by omega)
  obtain ⟨y, hy⟩ : ∃ y, y = RS.setA (RS.setA (RS.setA (RS.setA (RS.setA em.2 66 T em.1) 67 T (-1)) 68 T 0) 70 T 1) 71 T (em.2.i 38) := ⟨_, rfl⟩
  have y64 : y.a 64 T = 14 := by
    rw [hy, setA_nk (by decide), setA_nk (by decide), setA_nk (by decide), setA_nk (by decide), setA_nk (by decide)]
    exact em64
  have y66 : y.a 66 T = em.1 := by
    rw [hy, setA_nk (by decide), setA_nk (by decide), setA_nk (by decide), setA_nk (by decide)]
    exact setA_at
  have y67 : y.a 67 T = -1 := by
    rw [hy, setA_nk (by decide), setA_nk (by decide), setA_nk (by decide)]
    exact setA_at
  have y68 : y.a 68 T = 0 := by
    rw [hy, setA_nk (by decide), setA_nk (by decide)]
    exact setA_at
  have y70 : y.a 70 T = 1 := by
    rw [hy, setA_nk (by decide)]
    exact setA_at
  have y71 : y.a 71 T = em.2.i 38 := by
    rw [hy]
    exact setA_at
  have yi : y.i = em.2.i := by rw [hy, setA_i, setA_i, setA_i, setA_i, setA_i]
  have qy : qe y = qe em.2 := by rw [hy]; rfl
  have y40 : y.a 40 = em.2.a 40 := by rw [hy, setA_nk (by decide), setA_nk (by decide), setA_nk (by decide), setA_nk (by decide), setA_nk (by decide)]
  have y22 : y.a 22 = em.2.a 22 := by rw [hy, setA_nk (by decide), setA_nk (by decide), setA_nk (by decide), setA_nk (by decide), setA_nk (by decide)]
  rw [← hy] at w7 ho
  clear hy
  obtain ⟨oe, oa⟩ := g_goa ho
  obtain ⟨b1, b2, b3, b4, b5, b6, ⟨b7, b8, b9⟩, b10⟩ := id oa
  have evz : ENV d c13.2 (RS.setA o.2 72 T o.1) := setA_env (Or.inr (by omega)) (oa.env w7.1)
  rcases y_open hN evz (c := 123) (d := 123) (Or.inl ⟨by decide, by decide⟩) (by decide) (by decide) (by decide) ec17 hob with ⟨o1', o2, o3⟩ | ⟨o2', -, v3, v4, v5, v6, v7, v8, v9, v10, v11, v12⟩
  · exact Or.inl ⟨f17 o2, u_flt g4 (show ¬ ob.2.i 15 = 0 from o3)⟩
  refine Or.inr ⟨m4, RS.setA ob.2 65 T 2, g4, ?_⟩
  -- what stands in the end
  have quo : qe (RS.setA ob.2 65 T 2) = qe ob.2 := rfl
  have evu0 : ENV d c17.2 (RS.setA ob.2 65 T 2) := setA_env (Or.inr (by omega)) v3
  obtain ⟨u, hu⟩ : ∃ y, y = RS.setA ob.2 65 T 2 := ⟨_, rfl⟩
  have ui : u.i = ob.2.i := by rw [hu]; rfl
  have ua : ∀ k : Nat, k ≠ 65 → u.a k = ob.2.a k := by
    rw [hu]
    exact fun k h => setA_nk h
  have ub : u.b = ob.2.b ∧ u.l = ob.2.l := by rw [hu]; exact ⟨rfl, rfl⟩
  have u65' : u.a 65 T = 2 := by rw [hu]; exact setA_at
  have u65j : ∀ j : Nat, j ≠ T → u.a 65 j = ob.2.a 65 j := by
    rw [hu]
    exact fun j h => setA_ne h
  rw [← hu] at evu0 quo ⊢
  clear hu
  obtain ⟨x2, x3, x8, x18, x24, x29, x33, x38, x42, x43, x52, x53, x54, x55, x56, x59, x63, x75, xa1, xa4, xa25, xa26, xa27, xa28, xa30, xa34, xa37, xa40, xa41, xa44, xa46, xa47, xa48, xa49, xa50, xa51, xa57, xa58, xa60, xa61, xa62, xa64, xa65, xa66, xa67, xa68, xa69, xa70, xa71, xa72, xa73, xb9, xb39, xb45, xb74⟩ := qj_eq v4
  have zi : ∀ k : Nat, (RS.setA o.2 72 T o.1).i k = o.2.i k := fun _ => rfl
  have za : ∀ k : Nat, k ≠ 72 → (RS.setA o.2 72 T o.1).a k = o.2.a k := fun k h => setA_nk h
  have z72 : (RS.setA o.2 72 T o.1).a 72 T = o.1 := setA_at
  have z72j : ∀ j : Nat, j ≠ T → (RS.setA o.2 72 T o.1).a 72 j = o.2.a 72 j := fun j h => setA_ne h
  have zb : (RS.setA o.2 72 T o.1).b = o.2.b := rfl
  have qz0 : qe (RS.setA o.2 72 T o.1) = qe y := (kre_f_X12_goal N y 1 0 o ho)
  obtain ⟨z, hz⟩ : ∃ z, z = RS.setA o.2 72 T o.1 := ⟨_, rfl⟩
  rw [← hz] at qz0 hob evz v4 v6 v7 v8 v9 v12 x2 x3 x8 x18 x24 x29 x33 x38 x42 x43 x52 x53 x54 x55 x56 x59 x63 x75 xa1 xa4 xa25 xa26 xa27 xa28 xa30 xa34 xa37 xa40 xa41 xa44 xa46 xa47 xa48 xa49 xa50 xa51 xa57 xa58 xa60 xa61 xa62 xa64 xa65 xa66 xa67 xa68 xa69 xa70 xa71 xa72 xa73 xb9 xb39 xb45 xb74 zi za z72 z72j zb
  clear hz
  -- the same, before the goal
  obtain ⟨q', hq'⟩ : ∃ y, y = RS.setI u 43 (s.i 43) := ⟨_, rfl⟩
  have qi : ∀ k : Nat, k ≠ 43 → q'.i k = u.i k := by
    rw [hq']
    exact fun k h => if_neg h
  have q43 : q'.i 43 = s.i 43 := by
    rw [hq']
    rfl
  have qa : q'.a = u.a ∧ q'.b = u.b ∧ q'.l = u.l := by rw [hq']; exact ⟨rfl, rfl, rfl⟩
  clear hq'
  have y43 : y.i 43 = s.i 43 := w7.2.2.2.1.1.1.2.2.2.2.1
  have A : ∀ k : Nat, 51 < k → k ≠ 65 → k ≠ 72 → ob.2.a k = z.a k → u.a k = y.a k := fun k h1 h2 h3 e => (ua k h2).trans (e.trans ((za k h3).trans (b3 k (Or.inr (Or.inr h1)))))
  have A' : ∀ k : Nat, k < 44 → ob.2.a k = z.a k → u.a k = y.a k := fun k h1 e => (ua k (by omega)).trans (e.trans ((za k (by omega)).trans (b3 k (Or.inl h1))))
  have I : ∀ k : Nat, k ≠ 43 → ob.2.i k = z.i k → u.i k = y.i k := fun k h1 e => by
    rw [ui, e, zi k]
    exact b1 k h1
  have tbr : TBR y u := ⟨fun j _ => ⟨by rw [ub.1, xb39, zb, b5 39 (by decide)], by rw [A' 40 (by decide) xa40], by rw [A' 41 (by decide) xa41]⟩, fun j hj => ⟨by rw [ua 44 (by decide), xa44, za 44 (by decide)]; exact b4 44 j hj, by rw [ub.1, xb45, zb]; exact b6 j hj, by rw [ua 46 (by decide), xa46, za 46 (by decide)]; exact b4 46 j hj, by rw [ua 47 (by decide), xa47, za 47 (by decide)]; exact b4 47 j hj, by rw [ua 50 (by decide), xa50, za 50 (by decide)]; exact b4 50 j hj, by rw [ua 51 (by decide), xa51, za 51 (by decide)]; exact b4 51 j hj, by rw [ua 48 (by decide), xa48, za 48 (by decide)]; exact b4 48 j hj, by rw [ua 49 (by decide), xa49, za 49 (by decide)]; exact b4 49 j hj⟩, fun j _ => ⟨by rw [A 57 (by decide) (by decide) (by decide) xa57], by rw [A 58 (by decide) (by decide) (by decide) xa58]⟩, ⟨by rw [I 59 (by decide) x59]; exact Int.le_refl _, fun j k1 k2 => by rw [I 59 (by decide) x59] at k2; omega⟩, fun j _ => ⟨by rw [A 60 (by decide) (by decide) (by decide) xa60], by rw [A 61 (by decide) (by decide) (by decide) xa61], by rw [A 62 (by decide) (by decide) (by decide) xa62]⟩, by rw [I 29 (by decide) x29]; exact Int.le_refl _, fun j _ => by rw [A' 30 (by decide) xa30], by rw [I 33 (by decide) x33]; exact Int.le_refl _, fun j _ => ⟨by rw [A' 34 (by decide) xa34], by rw [A' 37 (by decide) xa37]⟩, by rw [I 24 (by decide) x24]; exact Int.le_refl _, fun j _ => ⟨by rw [A' 25 (by decide) xa25], by rw [A' 27 (by decide) xa27], by rw [A' 28 (by decide) xa28]⟩⟩
  have tbq : TBR y q' := by
    have h := tbr
    unfold TBR at *
    rw [qa.1, qa.2.1, qi 59 (by decide), qi 29 (by decide), qi 33 (by decide), qi 24 (by decide)]
    exact h
  have i20u : u.i 20 = y.i 20 := by
    rw [ui, v8, zi 20]
    exact b1 20 (by decide)
  have a22u : u.a 22 = y.a 22 := by
    rw [ua 22 (by decide), v9, za 22 (by decide)]
    exact b3 22 (by decide)
  have fru : FRB T y u := fun j hj => ⟨by rw [A 64 (by decide) (by decide) (by decide) xa64], by rw [u65j j (by omega), xa65, za 65 (by decide), b3 65 (by decide)], by rw [A 66 (by decide) (by decide) (by decide) xa66], by rw [A 67 (by decide) (by decide) (by decide) xa67], by rw [A 68 (by decide) (by decide) (by decide) xa68], by rw [A 69 (by decide) (by decide) (by decide) xa69], by rw [A 70 (by decide) (by decide) (by decide) xa70], by rw [A 71 (by decide) (by decide) (by decide) xa71], by rw [ua 72 (by decide), xa72, z72j j (by omega), b3 72 (by decide)], by rw [A 73 (by decide) (by decide) (by decide) xa73], by rw [ub.1, xb74, zb, b5 74 (by decide)]⟩
  have frq : FRB T y q' := fun j hj => by
    rw [qa.1, qa.2.1]
    exact fru j hj
  have t9 : TBK9 y q' := ⟨⟨⟨(qi 2 (by decide)).trans (I 2 (by decide) x2), (qi 3 (by decide)).trans (I 3 (by decide) x3), (qi 8 (by decide)).trans (I 8 (by decide) x8), (qi 38 (by decide)).trans (I 38 (by decide) x38), q43.trans y43.symm, trivial, (qi 56 (by decide)).trans (I 56 (by decide) x56), by rw [qa.1]; exact A' 1 (by decide) xa1, by rw [qa.1]; exact A' 4 (by decide) xa4, by rw [qa.2.1, ub.1, xb9, zb, b5 9 (by decide)]⟩, tbq⟩, ⟨by rw [qi 20 (by decide), i20u]; exact Int.le_refl _, fun j _ => by rw [qa.1, a22u]⟩⟩
  have u11 : (y.i 11).toInt + 1 ≤ (u.i 11).toInt := by
    rw [zi 11, b1 11 (by decide)] at v7
    rw [ui]
    exact v7
  have u17 : (u.i 17).toInt = (y.i 17).toInt + 1 := by
    rw [ui, v6, t17_up (N := N) evz, zi 17, b1 17 (by decide)]
  have u19 : (u.i 19).toInt = (y.i 19).toInt + 1 := by
    rw [ui, v12, zi 19, b1 19 (by decide)]
  have phu : phI u = phI y + 3 := by
    unfold phI
    rw [i20u, u17]
    omega
  have phq : phI q' = phI u := by
    unfold phI
    rw [qi 17 (by decide), qi 20 (by decide)]
  have evq : ENV d c17.2 q' := evu0.kq (qi 38 (by decide)) (qi 2 (by decide)) (qi 3 (by decide)) (qi 18 (by decide)) (qi 53 (by decide)) (qi 54 (by decide)) (qi 55 (by decide)) (by rw [qa.1]) (by rw [qa.1]) (by rw [qa.1]) (by rw [qa.2.1]) (by rw [qa.2.1]) (qi 10 (by decide)) (qi 11 (by decide)) (qi 12 (by decide)) (qi 14 (by decide)) (qi 15 (by decide)) (qi 17 (by decide)) (qi 19 (by decide)) qa.2.2 ⟨by rw [qi 20 (by decide)]; exact evu0.2.2.2.2.2.2.1, by rw [phq]; exact evu0.2.2.2.2.2.2.2.1⟩ (w7.1.wp.of (by rw [q43, y43]; exact Int.le_refl _) ((qi 56 (by decide)).trans (I 56 (by decide) x56)) ((qi 59 (by decide)).trans (I 59 (by decide) x59)) ((qi 29 (by decide)).trans (I 29 (by decide) x29)) (by rw [qa.1]; exact A 58 (by decide) (by decide) (by decide) xa58) (by rw [qa.1]; exact A 62 (by decide) (by decide) (by decide) xa62))
  have w8 : WAX d T 5 11 1 (-8) 4 S s c17.2 q' := ((w7.z (by omega)).x.tk (p1 := 1) (f1 := 3) (k1 := 1) evq frq t9 v5 v10 v11 ⟨by rw [qi 11 (by decide)]; exact u11, by rw [phq]; omega, by rw [qi 17 (by decide)]; omega, by rw [qi 19 (by decide)]; exact u19⟩ (by omega)).nu (by omega) (by omega) (by omega) (by omega) (by omega)
  have lo8 := w8.lo
  rw [qi 11 (by decide), phq] at lo8
  have sgP := w8.sg hv
  -- the row
  obtain ⟨a', m, ra', psr, evR, sq⟩ := evu0.row (v := 218) ⟨by decide, by decide, by decide, by decide⟩ (w8.pay hv (by omega)) (by rw [if_neg (by decide), if_pos (by decide)]; omega) (by omega) epp
  have ea : a' = a := by
    rw [ra] at ra'
    cases ra'
    rfl
  rw [ea] at psr sq
  have p21 : (pp.2.i 21).toInt = (c17.2.i 21).toInt := by rw [psr.2.1 21 (by decide) (by decide)]
  obtain ⟨ev31, -, y31⟩ := evR.nt (by omega) ex31
  have ev31' : ENV d (CS.setO x31.2 a 10 x31.1) u := ev31.so (by decide)
  have y31' : ((CS.setO x31.2 a 10 x31.1).i 21).toInt = (c17.2.i 21).toInt + 1 := by
    show (x31.2.i 21).toInt = _
    omega
  obtain ⟨ev36, -, y36⟩ := ev31'.nt (by omega) ex36
  have ev36' : ENV d (CS.setO (CS.setO x36.2 a 9 x36.1) a 13 (x36.2.i 22)) u := (ev36.so (by decide)).so (by decide)
  obtain ⟨ev41, ck41, -, y41⟩ := y_add ev36' ex41
  have kk := kd_X0_add N _ 30 _ x41 ex41
  have sqX := ((((sq.nt ex31).so (k := 10) (w := x31.1) ⟨by decide, by decide, by decide, by decide⟩).nt ex36).so (k := 9) (w := x36.1) ⟨by decide, by decide, by decide, by decide⟩).so (k := 13) (w := x36.2.i 22) ⟨by decide, by decide, by decide, by decide⟩
  have n53 : 0 ≤ (c17.2.i 53).toInt := by
    have := sq.2.2.2.1.1
    omega
  have sqY := sqX.kd n53 kk
  have oX : x41.2.o = (CS.setO (CS.setO x36.2 a 9 x36.1) a 13 (x36.2.i 22)).o := (pj_eq (pj2_eq kk).1).2.2.2.2.2.2.2.2.2.2.2.2.2.2.2.2.2.2.2.2.2.2.2.2.1
  have o36 : ∀ b : Nat, x36.2.o b = (CS.setO x31.2 a 10 x31.1).o b := fun b => by
    unfold f_X0_newTarget at ex36
    cases ex36
    rfl
  have o31 : ∀ b : Nat, x31.2.o b = pp.2.o b := fun b => by
    unfold f_X0_newTarget at ex31
    cases ex31
    rfl
  have o11 : x41.2.o a 11 = -1 := by
    rw [oX, so_nk (by decide), so_nk (by decide), o36 a, so_nk (by decide), o31 a]
    exact psr.2.2.2.2.2.2.2.2.2.2.2.2.1
  have o5 : x41.2.o a 5 = 0 := by
    rw [oX, so_nk (by decide), so_nk (by decide), o36 a, so_nk (by decide), o31 a]
    exact psr.2.2.2.2.2.2.2.2.2.1.1
  have o2X : x41.2.o a 2 = c17.2.i 38 := by
    rw [oX, so_nk (by decide), so_nk (by decide), o36 a, so_nk (by decide), o31 a]
    exact psh_o2 epp ra
  have o13 : x41.2.o a 13 = x36.2.i 22 := by
    rw [oX]
    exact so_at
  have i22' : x41.2.i 22 = x36.2.i 22 := (pj2_eq kk).2.2.2.2.1
  have i38' : x41.2.i 38 = c17.2.i 38 := by
    rw [(pj_eq (pj2_eq kk).1).2.2.2.2.2.2.2.2.2.2.2.2.1]
    show x36.2.i 38 = c17.2.i 38
    have z1 : x36.2.i 38 = x31.2.i 38 := by
      unfold f_X0_newTarget at ex36
      cases ex36
      rfl
    have z2 : x31.2.i 38 = pp.2.i 38 := by
      unfold f_X0_newTarget at ex31
      cases ex31
      rfl
    rw [z1, z2]
    exact psr.2.1 38 (by decide) (by decide)
  have X21 : (x41.2.i 21).toInt = (c17.2.i 21).toInt + 2 := by
    rw [y41]
    show (x36.2.i 21).toInt = _
    omega
  obtain ⟨zX, ⟨R53, R54, -, -⟩, ⟨R50, R56, R36⟩, ⟨-, m38, rr1⟩, ⟨g0, -, g3', -⟩, -⟩ := id sqY
  have c50 : c17.2.i 50 = S.i 50 := by
    have z1 := evu0.2.1.1
    have z2 : u.i 38 = y.i 38 := I 38 (by decide) x38
    have z3 : y.i 38 = s.i 38 := w7.2.2.2.1.1.1.2.2.2.1
    rw [z1, z2, z3]
    exact hv.2.1.1.symm
  -- the goal
  obtain ⟨gg, hgg⟩ : ∃ gg : Nat, (y.i 43).toInt = (gg : Int) := ⟨(y.i 43).toInt.toNat, by omega⟩
  obtain ⟨⟨c44, -⟩, ⟨c46, c48, c49⟩, c50', c51⟩ := b10 gg hgg
  have u44 : u.a 44 gg = 1 := by
    rw [ua 44 (by decide), xa44, za 44 (by decide)]
    exact c44
  have u48 : u.a 48 gg = -1 := by
    rw [ua 48 (by decide), xa48, za 48 (by decide)]
    exact c48
  have u47 : u.a 47 gg = u.i 52 := by
    rw [ua 47 (by decide), xa47, za 47 (by decide), I 52 (by decide) x52]
    exact goa47 ho hgg
  have u49 : u.a 49 gg = -1 := by
    rw [ua 49 (by decide), xa49, za 49 (by decide)]
    exact c49
  have u50 : u.a 50 gg = 0 := by
    rw [ua 50 (by decide), xa50, za 50 (by decide)]
    exact c50'
  have u51 : u.a 51 gg = 0 := by
    rw [ua 51 (by decide), xa51, za 51 (by decide)]
    exact c51
  have u43 : (u.i 43).toInt = (s.i 43).toInt + 1 := by
    rw [ui, x43, zi 43, b9, y43]
  have u66 : u.a 66 T = em.1 := by
    rw [A 66 (by decide) (by decide) (by decide) xa66]
    exact y66
  have u67 : u.a 67 T = -1 := by
    rw [A 67 (by decide) (by decide) (by decide) xa67]
    exact y67
  have u68 : u.a 68 T = 0 := by
    rw [A 68 (by decide) (by decide) (by decide) xa68]
    exact y68
  have u70 : u.a 70 T = 1 := by
    rw [A 70 (by decide) (by decide) (by decide) xa70]
    exact y70
  have u71 : u.a 71 T = S.i 50 := by
    rw [A 71 (by decide) (by decide) (by decide) xa71, y71]
    have z1 : y.i 38 = s.i 38 := w7.2.2.2.1.1.1.2.2.2.1
    rw [yi] at z1
    rw [z1]
    exact hv.2.1.1.symm
  have u72 : (u.a 72 T).toInt = (gg : Int) := by
    rw [ua 72 (by decide), xa72, z72, oe]
    exact hgg
  have u64' : u.a 64 T = 14 := by
    rw [A 64 (by decide) (by decide) (by decide) xa64]
    exact y64
  have em1 : em.1.toInt = (sh.2.i 20).toInt := by rw [e20]
  have i20e : (u.i 20).toInt = (sh.2.i 20).toInt + 1 := by rw [i20u, yi, n20]
  have l20 : (s.i 20).toInt ≤ (sh.2.i 20).toInt := w5.2.2.2.1.2.1
  have s20 : 0 ≤ (sh.2.i 20).toInt := (i20_h2 w5.1).1
  have u22 : u.a 22 (u.a 66 T).toNatClampNeg = -1 := by
    rw [u66, e20, a22u, y22]
    exact ix
  have eM : (-1 : Int32).toInt = -1 := by decide
  obtain ⟨c1, hc, ht, v2, v3'⟩ := hC.gen q1 q2 q3 hT hm hx w8 (by omega) ⟨by decide, by decide, by decide, by decide, by decide, by decide, by unfold isKS isOne isTy; decide⟩ sqY (g3'.trans c50) (by rw [i38']; show _ = _ + ((0 : Nat) : Int); omega) (fun j _ => by rw [qa.1, qa.2.1]; exact ⟨rfl, rfl, rfl, rfl, rfl, rfl, rfl, rfl, rfl, rfl, rfl⟩) (by
    unfold TBR
    rw [qa.1, qa.2.1, qi 59 (by decide), qi 29 (by decide), qi 33 (by decide), qi 24 (by decide)]
    exact ⟨fun _ _ => ⟨rfl, rfl, rfl⟩, fun _ _ => ⟨rfl, rfl, rfl, rfl, rfl, rfl, rfl, rfl⟩, fun _ _ => ⟨rfl, rfl⟩, ⟨Int.le_refl _, fun j k1 k2 => by omega⟩, fun _ _ => ⟨rfl, rfl, rfl⟩, Int.le_refl _, fun _ _ => rfl, Int.le_refl _, fun _ _ => ⟨rfl, rfl⟩, Int.le_refl _, fun _ _ => ⟨rfl, rfl, rfl⟩⟩) ⟨by rw [qi 20 (by decide)]; exact Int.le_refl _, fun j _ => by rw [qa.1]⟩ ⟨(qi 2 (by decide)).symm, (qi 3 (by decide)).symm, (qi 8 (by decide)).symm, (qi 38 (by decide)).symm, by rw [qa.1], by rw [qa.1], by rw [qa.2.1]⟩ (by rw [q43, u43]; rfl) (by rw [qi 56 (by decide)]; show _ = _ + ((0 : Nat) : Int); omega) ev41 ⟨by rw [qi 11 (by decide)]; exact Int.le_refl _, by show phI s + 0 ≤ phI u; omega, by rw [qi 17 (by decide)]; exact Int.le_refl _, by have z9 := w8.2.2.2.2.2.2.1.2.2.2; rw [qi 19 (by decide)] at z9; show _ = _ + ((1 : Nat) : Int); omega⟩ (by rw [X21]; omega) (by rw [R54]; omega) ⟨(qi 59 (by decide)).symm, by rw [qa.1], by rw [qa.1], by rw [qa.1]⟩ (fun c1 h1 h2 h3 h4 _ => by
      have hg1 : ceG c1 = gg := by
        rw [q43, ← y43] at h4
        omega
      refine ⟨by rw [h1, h2]; exact rr1, by rw [h1]; omega, by rw [h2, h3, hg1]; exact RFR.m218 g0 ⟨u64', u72, u71.trans (g3'.trans c50).symm, u44, Or.inl u68, ⟨fun z => by rw [u68] at z; exact absurd z (by decide), fun z => by rw [o11, eM] at z; omega⟩⟩, fun z => absurd (by rw [h2]; exact g0) z, fun _ => ⟨by rw [h2, o13, i22'], Int.le_refl _, ⟨by rw [h3, u66, em1]; exact s20, by rw [h3, u66, em1, i20e]; omega⟩, [], ⟨by have := ev41.2.2.2.2.2.2.2.2.2.1; omega, ⟨Int.le_refl _, (by show _ = _ + ((0 : Nat) : Int); omega), fun i j i1 i2 => absurd i2 (by omega)⟩, fun v => ⟨fun ⟨i, i1, i2, _⟩ => absurd i2 (by omega), fun ⟨j, hj, _⟩ => absurd hj List.not_mem_nil⟩⟩, ?_, ⟨fun _ => by rw [h3, u67, eM]; omega, fun L0 j hL => ?_⟩, fun j hj => absurd hj List.not_mem_nil⟩, fun _ => rfl, fun z => absurd z (by rw [h2, g0]; unfold isTy; decide)⟩
      · rw [h3, u22]
        show (-1 : Int32).toInt < 0
        rw [eM]
        omega
      · exact absurd hL.symm (by simp)) (fun g hg _ => by
      have hg1 : g = gg := by
        rw [q43, ← y43] at hg
        omega
      rw [hg1]
      exact ⟨by rw [u44]; decide, u50, u51⟩) (fun z => absurd z (by unfold isTy; decide)) (fun c1 col h1 h3 h4 hn hcl cf hb => by
      have hg1 : ceG c1 = gg := by
        rw [q43, ← y43] at h4
        omega
      exact hcl.sw cf hb (by rw [h1]; exact g0) hn (by rw [hg1, u48, u49, eM]; omega) (by rw [h3, u66, em1]; omega))
  have cd9 : cod c1 x41.2 u = -9 := by
    unfold cod
    rw [if_neg]
    intro z
    have z1 := z.1
    rw [v2, g0] at z1
    exact absurd z1 (by decide)
  have r36 : x41.2.i 36 = 1 := R36.trans w8.2.2.2.2.2.1.2.2.2
  have tu : tpI u = (T : Int) := by
    show (u.i 63).toInt = (T : Int)
    rw [ui, x63, zi 63, b1 63 (by decide)]
    exact w7.2.1
  refine ⟨c1, by rw [cd9]; exact hc, ht, ⟨Or.inr (Or.inr (Or.inr (Or.inl ⟨by rw [v2]; exact g0, by rw [v3']; exact u65', by rw [v3']; exact tu, by rw [v3', u70, r36], by rw [v2]; exact o5⟩))), Or.inr r36⟩, fun ku jw => ?_⟩
  have hin := hC.inl q1 q3
  have ckall : CKZ S x41.2 := w8.2.2.2.2.1.tr w8.2.2.2.2.2.1.2.1 zX
  have fsu : FRB T s u := w7.2.2.1.tr fru
  have veq : vws x41.2 u (c :: L) = vws S s (c :: L) := vws.eqf (T := T) (fun j hj => ((tbr.1 j (by rw [w7.2.2.2.1.1.1.2.2.2.1]; exact hj)).2.1).trans (w7.2.2.2.1.1.2.1 j hj).2.1) (c :: L) hC.o3 (fun y hy => (hin.o ckall y hy).1) (fun k t h1 h2 h3 => fsu.fld k t h1 h2 h3) (fun y hy => by
    have z1 := wid1 (S.o y.2.1 0)
    have z2 := (hin y hy).2.2.1
    omega)
  show JRW Aj U B b (vw x41.2 u c1 :: vws x41.2 u (c :: L)) x41.2 u
  rw [veq]
  have pls : ∀ y ∈ vws S s (c :: L), y.2.2.1 < c1.1 := vws.pl hc
  -- the chain of steps
  have j1 := jst.go2 jw (e := 1) (Or.inl rfl) hv.2.1.1
  have j2 := (j1.adw hN w0.1 (by rw [i43, h43]; decide) ec1 hq).opn hN w2.1 (c := 40) (c' := 40) (Or.inl ⟨by decide, by decide⟩) (by decide) (by decide) (by decide) ec5 hr o1
  have pc1 : pcC c5.2 = pcC p.2 := (pcC.pe (ke_X1_open N c1'.2 40 c5 ec5)).trans (pcC.pe (ke_X9_advance N p.2 c1' ec1))
  have pr1 : pcR r.2 = pcR s1 := (pcR.qe (kre_f_X12_open N q 40 r hr)).trans (pcR.qe (kre_f_X12_next N s1 q hq))
  have j3 : JRG Aj U B b (vws S s (c :: L)) s [] (JAN (fun _ _ _ _ _ _ _ => True) (JQA U 2528 0 (pcC c5.2) (pcR r.2) JQZ)) (-2) (-2) c5.2 r.2 := j2.imp (by omega) (by omega) (fun _ _ _ _ _ _ _ _ _ _ _ _ _ k => ⟨trivial, fun gu => k (by rw [← pc1, ← pr1]; exact gu 1)⟩)
  have l311 := w3.l11
  have l319 := w3.l19
  have s19 := hv.2.2.1.2.2
  have j4 := (j3.frm w3.1 xo xc (by omega) (by omega) (by omega) (by omega) (by omega)).cls hN w4.1 (by have := w4.sg hv; omega) (c := 41) (c' := 41) (Or.inl ⟨by decide, by decide⟩) (by decide) (by decide) (by decide) ec13 hsh o1'
  have j5 := j4.emh hem (i20_h2 w5.1)
  have nvz : NMV em.2 z := ⟨by rw [zi 38, b1 38 (by decide), yi], fun j _ => by rw [za 40 (by decide), b3 40 (by decide), y40]⟩
  have j6 := j5.se (u := z) (qz0.trans qy) nvz
  have j7 := (j6.opn hN evz (c := 123) (c' := 123) (Or.inl ⟨by decide, by decide⟩) (by decide) (by decide) (by decide) ec17 hob o2').se (u := u) quo ⟨by rw [ui], fun j _ => by rw [ua 40 (by decide)]⟩
  have pa1 := psr.1.1
  have j8 := j7.ce (R := pp.2) (ke_X6_push N c17.2 218 _ _ pp epp) (psr.2.1 21 (by decide) (by decide)) (by rw [pa1]) (by rw [pa1]) (psr.2.1 50 (by decide) (by decide)) (psr.2.1 44 (by decide) (by decide))
  have h9 := (i11_hi evu0).2
  have h44 : (pp.2.i 44).toInt ≤ 900 := by rw [psr.2.1 44 (by decide) (by decide), evu0.p44.1]; exact h9
  have k31 : x31.2.i 44 = pp.2.i 44 ∧ x31.2.i 20 = pp.2.i 20 := by
    unfold f_X0_newTarget at ex31
    cases ex31
    exact ⟨rfl, rfl⟩
  have k36 : x36.2.i 44 = x31.2.i 44 ∧ x36.2.i 20 = x31.2.i 20 := by
    unfold f_X0_newTarget at ex36
    cases ex36
    exact ⟨rfl, rfl⟩
  have j9 := (j8.nt ex31 h44 (by omega)).ce (R := CS.setO x31.2 a 10 x31.1) rfl rfl rfl rfl rfl rfl
  have j10 := (j9.nt ex36 (show (x31.2.i 44).toInt ≤ 900 by rw [k31.1]; exact h44) (by omega)).ce (R := CS.setO (CS.setO x36.2 a 9 x36.1) a 13 (x36.2.i 22)) rfl rfl rfl rfl rfl rfl
  have j11 := j10.add ex41 (show (x36.2.i 44).toInt ≤ 900 by rw [k36.1, k31.1]; exact h44) (by omega)
  have pcX : pcC (CS.setO (CS.setO x36.2 a 9 x36.1) a 13 (x36.2.i 22)) = pcC c9.2 := by
    have z1 : pcC c17.2 = pcC c9.2 := (pcC.pe (ke_X1_open N c13.2 123 c17 ec17)).trans (pcC.pe (ke_X1_close N c9.2 41 c13 ec13))
    rw [← z1]
    unfold pcC
    show (x36.2.i 20).toInt.toNat = _
    rw [k36.2, k31.2, (pe_eq (ke_X6_push N c17.2 218 _ _ pp epp)).1]
  have pru : pcR sh.2 = pcR u0 := pcR.qe (kre_f_X12_shut N u0 41 sh hsh)
  have o10 : x41.2.o a 10 = x31.1 := by
    rw [oX, so_nk (by decide), so_nk (by decide), o36 a]
    exact so_at
  have o9 : x41.2.o a 9 = x36.1 := by
    rw [oX, so_nk (by decide)]
    exact so_at
  have e10 : (CS.setO (CS.setO x36.2 a 9 x36.1) a 13 (x36.2.i 22)).o a 10 = x31.1 := by rw [← oX]; exact o10
  have hr0 : (vw x41.2 u c1).v = 218 := show x41.2.o c1.2.1 0 = 218 by rw [v2]; exact g0
  have r9 : (vw x41.2 u c1).1 9 = x36.1 := show x41.2.o c1.2.1 9 = x36.1 by rw [v2]; exact o9
  have r10 : (vw x41.2 u c1).1 10 = x31.1 := show x41.2.o c1.2.1 10 = x31.1 by rw [v2]; exact o10
  have r66 : (vw x41.2 u c1).2.1 66 = em.1 := show (vw x41.2 u c1).2.1 66 = em.1 by rw [vw_at (k := 66) ⟨by decide, by decide⟩, v3']; exact u66
  have r67 : (vw x41.2 u c1).2.1 67 = -1 := show (vw x41.2 u c1).2.1 67 = -1 by rw [vw_at (k := 67) ⟨by decide, by decide⟩, v3']; exact u67
  have jl : jlv (vw x41.2 u c1).v = 1264 := by rw [hr0]; rfl
  have en : ∀ (G : GHT) (ω h l : Nat), jen G ω (vw x41.2 u c1) h l = [] := fun G ω h l => jen.no (by rw [hr0]; decide) (fun y => by rcases y with y | y | y | y <;> rw [hr0] at y <;> exact absurd y (by decide)) (by rw [hr0]; decide)
  have gkp : GKP s u := (GKP.tbr w7.2.2.2.1.1.2 (by rw [y43]; exact Int.le_refl _)).tr (GKP.tbr tbr (by rw [y43]; omega))
  have g43 : ((ceG c1 : Nat) : Int) = (s.i 43).toInt := by
    have t43 := ht.2.1
    have o1 : nGo (x41.2.o c1.2.1 0) = 1 := by rw [v2, g0]; decide
    rw [o1] at t43
    omega
  have eg : ceG c1 = gg := by rw [y43] at hgg; omega
  have u11s : (s.i 11).toInt ≤ (u.i 11).toInt := by have := w7.l11; omega
  have x41p : 0 ≤ (x41.2.i 20).toInt → ((pcC c9.2 : Nat) : Int) ≤ (x41.2.i 20).toInt := fun z0 => by
    rw [← pcX]
    obtain ⟨Q, hQ⟩ : ∃ Q, Q = CS.setO (CS.setO x36.2 a 9 x36.1) a 13 (x36.2.i 22) := ⟨_, rfl⟩
    rw [← hQ] at ex41 ⊢
    clear hQ
    have z1 : x41.2.i 20 = Q.i 20 + 1 := by
      unfold f_X0_add at ex41
      cases ex41
      rfl
    have z2 : Q.i 20 = x41.2.i 20 - 1 := by
      rw [z1]
      exact (Int32.add_sub_cancel _ _).symm
    have e1 : (1 : Int32).toInt = 1 := by decide
    have hi := Int32.toInt_lt (x41.2.i 20)
    have z3 : (Q.i 20).toInt = (x41.2.i 20).toInt - 1 := by
      rw [z2, toInt_sub] <;> rw [e1] <;> omega
    unfold pcC
    omega
  have evR22 : 0 ≤ (x41.2.i 22).toInt := by have := ev41.2.2.2.2.2.2.2.2.2.1; omega
  have u19s : (s.i 19).toInt ≤ (u.i 19).toInt := by have := w7.l19; omega
  refine j11.psd (r := vw x41.2 u c1) (R0 := x41.2) (u0 := u) (pcC c9.2, 0, []) (fun z => z.p0 (by rw [hr0]; decide) (NK.eq rfl rfl rfl rfl)) (D38.rf _) (D52.rf _) ⟨by omega, fun _ => by omega, ⟨fun y => by rcases y with y | y | y <;> rw [hr0] at y <;> exact absurd y (by decide), fun y => absurd (hr0.symm.trans y) (by decide), by rw [hr0]; decide⟩, fun _ => ⟨by omega, rfl⟩, by rw [hr0]; decide, by rw [hr0]; decide⟩ (Or.inl (by omega)) gkp u19s pls (fun y => ?_) (fun _ => ⟨by rw [r67]; decide, by rw [r66]; exact List.mem_cons_of_mem _ (List.mem_cons_of_mem _ List.mem_cons_self)⟩) (by rw [hr0]; decide) (fun k y => ⟨sv5 em.1, List.mem_cons_of_mem _ (List.mem_cons_of_mem _ List.mem_cons_self), ?_⟩) ?_ (fun _ => ?_) ⟨fun z => absurd (show dfr (vw x41.2 u c1).v = 1 from z) (by rw [hr0]; decide), fun y => by rcases y with y | y | y | y <;> rw [hr0] at y <;> exact absurd y (by decide), u11s, fun _ => ⟨by rw [r66, em1, i20e]; exact ⟨s20, by omega⟩, by rw [r66, ← u66, u22]; decide, (show 0 ≤ (x41.2.o c1.2.1 13).toInt by rw [v2, o13, ← i22']; exact evR22), (show (x41.2.o c1.2.1 13).toInt ≤ (x41.2.i 22).toInt by rw [v2, o13, i22']; exact Int.le_refl _), (show (x41.2.o c1.2.1 11).toInt < 0 by rw [v2, o11]; decide), x41p⟩, by rw [hr0]; decide⟩ (fun nm G' ω j _ ng fr wn hc' hh => ?_) (fun FC SF nm X' G' col YJ ω j Z gq hω r12 hc' hh k jr' cur => ?_)
  · rcases y with y | y | y | y <;> rw [hr0] at y <;> exact absurd y (by decide)
  · refine sv5.site.mpr ?_
    rw [← r66]
    unfold rsite at y
    rw [hr0] at y
    rcases y with ⟨-, y⟩ | ⟨y, -⟩ | ⟨y, -⟩ | ⟨y, -⟩
    · exact y
    · exact absurd y (by decide)
    · rcases y with y | y <;> exact absurd y (by decide)
    · rcases y with y | y <;> exact absurd y (by decide)
  · have e1 : rtgs (vw x41.2 u c1) = [x31.1, x36.1] := by
      unfold rtgs
      rw [hr0, if_neg (by decide), if_neg (by decide), if_pos (by decide), r9, r10]
    have e2 : ptl [tv x36.1, tv x31.1, sv5 em.1] = [x36.1, x31.1] := by
      show rtgs (tv x36.1) ++ (rtgs (tv x31.1) ++ (rtgs (sv5 em.1) ++ [])) = _
      rw [tv.tgs, tv.tgs, sv5.tgs]
      rfl
    rw [e1]
    exact (List.Perm.swap _ _ _).trans (List.Perm.of_eq e2.symm)
  · show (s.i 43).toInt ≤ ((ceG c1 : Nat) : Int) ∧ ((ceG c1 : Nat) : Int) < (u.i 43).toInt ∧ (u.a 48 (ceG c1)).toInt < 0 ∧ (u.a 49 (ceG c1)).toInt < 0 ∧ x41.2.o c1.2.1 2 = x41.2.i 38 ∧ (dln (vw x41.2 u c1).v = 0 → u.a 47 (ceG c1) = u.i 52) ∧ (dln (vw x41.2 u c1).v = 1 → u.a 47 (ceG c1) = u.i 52 + 1) ∧ NT5 (x41.2.o c1.2.1 9) ∧ (isLo (vw x41.2 u c1).v → NT5 (x41.2.o c1.2.1 10)) ∧ RHP (vw x41.2 u c1).v (vw x41.2 u c1).2.1
    have dl : dln (vw x41.2 u c1).v = 0 := by rw [hr0]; decide
    have n59 : NT5 x36.1 := by
      have h1 := evR.t21
      have h2 := (i11_hi evR).2
      have h3 := (nt5r ex31 ⟨h1.1, by omega⟩).2
      exact (nt5r ex36 ⟨show 0 ≤ (x31.2.i 21).toInt by omega, show (x31.2.i 21).toInt ≤ 4000 by omega⟩).1
    rw [eg, u48, u49, eM, dl, u47]
    rw [eg] at g43
    exact ⟨by omega, by omega, by omega, by omega, by rw [v2, i38']; exact o2X, fun _ => rfl, fun z => by omega, by rw [v2, o9]; exact n59, fun z => by rw [hr0] at z; rcases z with z | z | z | z <;> exact absurd z (by decide), RHP.no (by rw [hr0]; decide)⟩
  · rw [en]
    exact ⟨ng.g (Int.le_trans fr u19s), hc', Int.le_trans hh u11s⟩
  · obtain ⟨⟨s1', s2', s3', -⟩, ⟨t1', t2', t3', -⟩, -, kk⟩ := k
    rw [pcX] at s1' s2' s3'
    rw [pru] at t1' t2' t3'
    have e66 : ((vw x41.2 u c1).2.1 66).toNatClampNeg = pcR u0 := by rw [r66]; exact t2'
    have eg1 : (G' (vw x41.2 u c1).2.2.1).1 = pcC c9.2 := by rw [gq]
    have swh := jr'.2.2.2.2.2.2.1 hr0
    unfold SWH at swh
    rw [eg1, e66] at swh
    refine ⟨kk swh, fun y => absurd (hr0.symm.trans y) (by decide), fun y => absurd (hr0.symm.trans y) (by decide), fun y => absurd (hr0.symm.trans y) (by decide), fun y => absurd (hr0.symm.trans y) (by decide), fun _ => ⟨fun w hw => ?_, ?_⟩⟩
    · rw [gq] at hw
      exact absurd hw List.not_mem_nil
    · unfold SWF
      rw [eg1, e66, r10]
      exact ⟨s1', s2'.trans e10, s3', t1', t3'⟩
end
section
/-! both readers: rows aside, what the small methods do -/
theorem ENW.kd {d : Int32} {S R : CS} {s : RS} (h : ENW d S s) (e : pj2 R = pj2 S) : ENW d R s := by
  obtain ⟨h1, ⟨n1, n2, n3, n4⟩, ⟨o1, o2⟩, ⟨c1, c2, c3⟩, l1, ⟨k1, k2, k3, k4⟩, ⟨r1, r2, r3, r4, r5, r6, r7, r9, r10, r11⟩⟩ := h
  have hb := h1.kd e
  obtain ⟨ep, e32, e33, e34, e22, e41, e42, e43, e44, e45, el, e18⟩ := pj2_eq e
  obtain ⟨-, -, -, -, i13, -, i24, i25, i26, -, -, i37, -, i50, -, -, -, -, -, a9, -, a49, -, er, eo, eol, eb, i21, ehk⟩ := pj_eq ep
  exact ⟨hb, ⟨by rw [i50]; exact n1, n2, fun k hk => by rw [eb, a49]; exact n3 k hk, n4⟩, ⟨by rw [e34]; exact o1, o2⟩, ⟨by rw [i24]; exact c1, by rw [i26]; exact c2, by rw [i25]; exact c3⟩, by unfold LTE at *; rw [i37]; exact l1, ⟨by rw [i13]; exact k1, by rw [a9]; exact k2, fun k h1 h2 => by rw [a9]; exact k3 k h1 h2, k4⟩, ⟨r1, r2, r3, by rw [e22]; exact r4, by rw [e22]; exact r5, by rw [i21]; exact r6, by rw [i21]; exact r7, r9.kp ep rfl, r10, r11.kd e42 e43 e44 e45 eb⟩⟩
theorem ENW.kq {d : Int32} {S : CS} {s u : RS} (h : ENW d S s) (e38 : u.i 38 = s.i 38) (e2 : u.i 2 = s.i 2) (e3 : u.i 3 = s.i 3) (e18 : u.i 18 = s.i 18) (e53 : u.i 53 = s.i 53) (e54 : u.i 54 = s.i 54) (e55 : u.i 55 = s.i 55) (a1 : u.a 1 = s.a 1) (a4 : u.a 4 = s.a 4) (a41 : u.a 41 = s.a 41) (b9 : u.b 9 = s.b 9) (b39 : u.b 39 = s.b 39) (e10 : u.i 10 = s.i 10) (e11 : u.i 11 = s.i 11) (e12 : u.i 12 = s.i 12) (e14 : u.i 14 = s.i 14) (e15 : u.i 15 = s.i 15) (e17 : u.i 17 = s.i 17) (e19 : u.i 19 = s.i 19) (el : u.l = s.l) (h20 : 0 ≤ (u.i 20).toInt ∧ 0 ≤ phI u) (hw : WPI u) : ENW d S u := by
  obtain ⟨⟨h1, h2, ⟨t1, t2, t3, t4⟩, ⟨k1, k2, k3, k4, k5, k6⟩, h5, h6, h7, h8⟩, ⟨n1, n2, n3, n4⟩, ⟨o1, o2, o3⟩, ⟨c1, c2, c3⟩, l1, ⟨m1, m2, m3, m4, m5⟩, ⟨r1, r2, r3, r4, r5, r6, r7, r9, r10, r11⟩⟩ := h
  exact ⟨⟨h1, by rw [e15]; exact h2, ⟨by rw [e2]; exact t1, by rw [e2]; exact t2, fun k hk => by rw [e2] at hk; rw [a1]; exact t3 k hk, fun k hk => by rw [b9]; exact t4 k hk⟩, ⟨by rw [e11]; exact k1, by rw [e12]; exact k2, by rw [e10]; exact k3, k4, fun q => by rw [el]; exact k5 q, fun q => by rw [e14]; exact k6 q⟩, by rw [e12, e2]; exact h5, fun k hk => by rw [b9]; exact h6 k hk, h7, h8⟩, ⟨by rw [e38]; exact n1, by rw [e38, e11]; exact n2, fun k hk => by rw [e38] at hk; rw [b39, a41]; exact n3 k hk, fun j k hj hk => by rw [e38] at hk; rw [b39]; exact n4 j k hj hk⟩, ⟨by rw [e19]; exact o1, by rw [e19]; exact o2, by rw [e19]; exact o3⟩, ⟨by rw [e53]; exact c1, by rw [e55]; exact c2, by rw [e54]; exact c3⟩, by unfold LTE at *; rw [e18]; exact l1, ⟨by rw [e3]; exact m1, m2, fun k h1 h2 => by rw [e3] at h2; rw [a4]; exact m3 k h1 h2, by rw [e3]; exact m4, fun k h1 h2 => by rw [e3] at h2; rw [a4]; exact m5 k h1 h2⟩, ⟨h20.1, h20.2, by rw [e17, e11]; exact r3, r4, by rw [e11]; exact r5, r6, by rw [e11]; exact r7, r9.rs e11, hw, r11⟩⟩
theorem ENW.wp {d : Int32} {S : CS} {s : RS} (h : ENW d S s) : WPI s := by
  obtain ⟨-, -, -, -, -, -, ⟨-, -, -, -, -, -, -, -, r10, -⟩⟩ := h
  exact r10
theorem ENW.sj {d : Int32} {S : CS} {s : RS} (h : ENW d S s) : SJB S s := by
  obtain ⟨-, -, -, -, -, -, ⟨-, -, -, -, -, -, -, r9, -, -⟩⟩ := h
  exact r9
theorem ENW.t21 {d : Int32} {S : CS} {s : RS} (h : ENW d S s) : 0 ≤ (S.i 21).toInt ∧ (S.i 21).toInt ≤ 3 * (s.i 11).toInt + 8 := by
  obtain ⟨-, -, -, -, -, -, ⟨-, -, -, -, -, r6, r7, -, -, -⟩⟩ := h
  exact ⟨r6, r7⟩
theorem i20_hw {d : Int32} {S : CS} {s : RS} (h : ENW d S s) : (0 ≤ (s.i 20).toInt ∧ (s.i 20).toInt < 3000) ∧ 0 ≤ (s.i 11).toInt ∧ (s.i 11).toInt ≤ 900 := by
  have r1 := h.2.2.2.2.2.2.1
  have r2 := h.2.2.2.2.2.2.2.1
  have r3 := h.2.2.2.2.2.2.2.2.1
  have b5 := h.1.2.2.2.2.1
  have b3 := h.1.2.2.1.2.1
  have lc := h.1.2.2.2.2.2.2.1.2.1
  have k11 := h.1.2.2.2.1.1
  have k12 := h.1.2.2.2.1.2.1
  rw [k11, k12] at lc
  unfold phI at r2
  omega
theorem ENW.em {N : Nat} {d : Int32} {S : CS} {s : RS} {o x : Int32} {V : Int32 × RS} (h : ENW d S s) (hp : 1 ≤ phI s) (g : f_X12_emit N s o x = some V) : ENW d S V.2 ∧ TBK s V.2 ∧ qj2 V.2 = qj2 s ∧ phI V.2 = phI s - 1 ∧ V.1 = s.i 20 ∧ (V.2.i 20).toInt = (s.i 20).toInt + 1 := by
  obtain ⟨k1, k2⟩ := kq_emit g
  obtain ⟨e1, e2, e3⟩ := k2 (i20_hw h).1
  obtain ⟨kq, y10, y11, y12, y14, y15, y16, y17, y19, yl⟩ := qj2_eq k1
  obtain ⟨i2, i3, i8, i18, i24, i29, i33, i38, i42, i43, i52, i53, i54, i55, i56, i59, i63, i75, a1, a4, a25, a26, a27, a28, a30, a34, a37, a40, a41, a44, a46, a47, a48, a49, a50, a51, a57, a58, a60, a61, a62, a64, a65, a66, a67, a68, a69, a70, a71, a72, a73, b9, b39, b45, b74⟩ := qj_eq kq
  have ph : phI V.2 = phI s - 1 := by
    unfold phI
    rw [y17, e2]
    omega
  have h20 := (i20_hw h).1
  exact ⟨h.kq i38 i2 i3 i18 i53 i54 i55 a1 a4 a41 b9 b39 y10 y11 y12 y14 y15 y17 y19 yl ⟨by omega, by omega⟩ (h.wp.kp kq), TBK.of kq (by omega) e3, k1, ph, e1, e2⟩
theorem ENW.sg {d : Int32} {S : CS} {s : RS} {v w : Int32} (h : ENW d S s) (hvw : v = w) (h0 : 0 ≤ w.toInt) (h9 : w.toInt ≤ 20) : ENW d (CS.setI S 34 v) (RS.setI s 19 w) := by
  obtain ⟨⟨h1, h2, h3, h4, h5, h6, h7, h8⟩, n, -, c, l, k, r⟩ := h
  exact ⟨⟨h1, h2, h3, h4, h5, h6, h7, h8⟩, n, ⟨hvw, h0, h9⟩, c, l, k, r⟩
/-- a sign that opens -/
theorem w_open {N : Nat} (hN : 1000 ≤ N) {dl : Int32} {S : CS} {s : RS} {R : Unit × CS} {V : Int32 × RS} {c d : Int32} (h : ENW dl S s) (hc : tyR c) (hd : tm c = d) (h6 : ¬ d = 6) (h0 : ¬ c = 0) (e : f_X1_open N S c = some R) (g : f_X12_open N s d = some V) : (V.1 = 0 ∧ ¬ R.2.i 32 = 0 ∧ ¬ V.2.i 15 = 0) ∨ (V.1 = 1 ∧ S.i 43 = c ∧ ENW dl R.2 V.2 ∧ qj V.2 = qj s ∧ pj R.2 = pj S ∧ V.2.i 17 = s.i 17 + 1 ∧ (s.i 11).toInt + 1 ≤ (V.2.i 11).toInt ∧ V.2.i 20 = s.i 20 ∧ V.2.a 22 = s.a 22 ∧ R.2.i 22 = S.i 22 ∧ A18 S R.2 ∧ (V.2.i 19).toInt = (s.i 19).toInt + 1 ∧ ((V.2.i 17).toInt = (s.i 17).toInt + 1 ∧ eI S ≤ eI R.2)) := by
  have is := h.1.2.2.2.1.is hc hd
  have h15 := h.1.2.1
  have ho := h.2.2.1
  have e20 : (20 : Int32).toInt = 20 := by decide
  have s19 : (s.i 19 + 1).toInt = (s.i 19).toInt + 1 := ad1 ho.2.1 (by omega)
  unfold f_X1_open at e
  unfold f_X12_open f_X12_open_27 f_X12_open_38 f_X12_opens f_X12_opens_29 at g
  rw [if_pos h15] at g
  by_cases k : S.i 43 = c
  · have k' := is.mp k
    rw [e_fnd1 k, ob_some, if_neg n10] at e
    rw [if_pos k', y_can1 h15 (by rw [k']; exact h6), ob_some, if_neg n10] at g
    by_cases o : (s.i 19).toInt < 20
    · have c1 : S.i 34 < 20 := by rw [ho.1, Int32.lt_iff_toInt_lt]; omega
      have c2 : s.i 19 + 1 ≤ 20 := by rw [Int32.le_iff_toInt_le]; omega
      have c3 : (RS.setI s 19 (s.i 19 + 1)).i 15 = 0 := h15
      have e2 : (f_X9_advance N (CS.setI S 34 (S.i 34 + 1))).bind (fun p7 => some ((), p7.2)) = some R := (if_pos c1).symm.trans e
      rw [if_pos c2, if_pos c3, ob_some, if_neg n10] at g
      obtain ⟨p, ep, e2⟩ := hf_bind e2
      obtain ⟨q, gq, g⟩ := hf_bind g
      have hv : ENW dl (CS.setI S 34 (S.i 34 + 1)) (RS.setI s 19 (s.i 19 + 1)) := h.sg (by rw [ho.1]) (by omega) (by omega)
      have nz : ¬ (CS.setI S 34 (S.i 34 + 1)).i 43 = 0 := fun z => h0 (k.symm.trans z)
      obtain ⟨a1, a2, a3, a4, a5, a6, a7, a8, a9, a10, a11, a12⟩ := hv.adv hN nz ep gq
      rw [if_pos a1.1.2.1] at g
      cases e2
      cases g
      have gn := ((ADV.gain hv.1.2.2.2.2.2.2.1 a11).2.1 nz).2
      exact Or.inr ⟨rfl, k, a1, a2, a3, a4, a5, a6, a7, a8, a9, by rw [a10]; exact s19, a12, gn⟩
    · have c1 : ¬ S.i 34 < 20 := fun z => by
        have := lt_int z
        rw [ho.1] at this
        omega
      have c2 : ¬ s.i 19 + 1 ≤ 20 := fun z => by
        have := le_int z
        omega
      have e2 : (f_X1_fail N S 6 (S.i 44)).bind (fun p11 => some ((), p11.2)) = some R := (if_neg c1).symm.trans e
      obtain ⟨p, ep, e2⟩ := hf_bind e2
      cases e2
      rw [if_neg c2, e_fail, ob_some] at g
      have c3 : (RS.setI s 19 (s.i 19 + 1)).i 15 = 0 := h15
      rw [if_pos c3] at g
      have c4 : ¬ ((RS.setI (RS.setI s 19 (s.i 19 + 1)) 15 6).setI 16 (s.i 11)).i 15 = 0 := by
        show ¬ (6 : Int32) = 0
        decide
      rw [if_neg c4, ob_some, if_pos rfl, if_neg c4] at g
      cases g
      exact Or.inl ⟨rfl, y_fail (by decide) ep, c4⟩
  · have k' : ¬ s.i 10 = d := fun q => k (is.mpr q)
    rw [e_fnd0 k, ob_some, if_pos rfl] at e
    rw [if_neg k'] at g
    obtain ⟨p, ep, e⟩ := hf_bind e
    obtain ⟨q, gq, g⟩ := hf_bind g
    obtain ⟨q1, q2⟩ := y_can0 gq
    rw [if_pos q1, if_neg q2] at g
    cases e
    cases g
    exact Or.inl ⟨rfl, y_misp ep, q2⟩
end
section
/-! both readers: try, its words -/
/-- the row a is pushed, not yet paid; both stand in the words before the block -/
def TRW (d : Int32) (T a m : Nat) (P pp : CS) (s1 : RS) (p f : Int) (wh wr : Int32) (R : CS) (q : RS) : Prop :=
  ENW d R q ∧ tpI q = (T : Int) ∧ PSQ P R a m 213 (P.i 50) ∧
  (R.r = pp.r ∧ R.L = pp.L ∧ R.k = pp.k ∧ R.hs = pp.hs ∧ R.i 53 = pp.i 53 ∧ (∀ b : Nat, R.o b 0 = pp.o b 0) ∧ R.ol = pp.ol) ∧
  (R.o a 6 = 0 ∧ R.o a 8 = wh ∧ R.o a 12 = 0 ∧ (R.i 38).toInt = (P.i 38).toInt + 1 ∧ (R.i 21).toInt = (P.i 21).toInt + 3 ∧ R.i 34 = P.i 34) ∧
  (FRB T s1 q ∧ TBR s1 q ∧ CDK (s1.i 20).toInt s1 q) ∧ (q.i 2 = s1.i 2 ∧ q.i 3 = s1.i 3 ∧ q.i 8 = s1.i 8 ∧ q.i 38 = s1.i 38 ∧ q.i 43 = s1.i 43 ∧ q.i 56 = s1.i 56 ∧ q.a 1 = s1.a 1 ∧ q.a 4 = s1.a 4 ∧ q.b 9 = s1.b 9) ∧
  ((s1.i 11).toInt + p ≤ (q.i 11).toInt ∧ phI s1 + f ≤ phI q ∧ (s1.i 17).toInt ≤ (q.i 17).toInt ∧ q.i 19 = s1.i 19) ∧
  (q.i 59 = s1.i 59 ∧ q.a 60 = s1.a 60 ∧ q.a 61 = s1.a 61 ∧ q.a 62 = s1.a 62) ∧ plI P + 3 ≤ eI R ∧
  (q.a 64 T = 15 ∧ q.a 66 T = s1.i 29 ∧ q.a 67 T = wr) ∧ ((q.i 29).toInt = (s1.i 29).toInt + 1 ∧ q.a 30 (s1.i 29).toNatClampNeg = -1)
theorem TRW.nu {d : Int32} {T a m : Nat} {P pp R : CS} {s1 q : RS} {p f p' f' : Int} {wh wr : Int32} (h : TRW d T a m P pp s1 p f wh wr R q) (hp : p' ≤ p) (hf : f' ≤ f) : TRW d T a m P pp s1 p' f' wh wr R q := by
  obtain ⟨h1, h2, h3, h4, h5, h6, h7, ⟨n1, n2, n3, n4⟩, h9, h10, h11, h12⟩ := h
  exact ⟨h1, h2, h3, h4, h5, h6, h7, ⟨by omega, by omega, n3, n4⟩, h9, h10, h11, h12⟩
/-- the class alone: an instruction -/
theorem TRW.kd {d : Int32} {T a m : Nat} {P pp R X : CS} {s1 q : RS} {p f : Int} {wh wr : Int32} (h : TRW d T a m P pp s1 p f wh wr R q) (e : pj2 X = pj2 R) : TRW d T a m P pp s1 p f wh wr X q := by
  obtain ⟨h1, h2, h3, ⟨r1, r2, r3, r4, r5, r6, r7⟩, ⟨o6, o8, o12, i38, i21, i34⟩, h6, h7, h8, h9, h10, h11, h12⟩ := h
  have kp := pj2_eq e
  obtain ⟨-, -, -, -, -, -, -, -, -, -, -, -, y38, -, y53, -, -, -, -, -, -, -, -, yr, yo, yol, -, y21, ⟨yh, yL, yk⟩⟩ := pj_eq kp.1
  refine ⟨h1.kd e, h2, h3.kd (by have := h3.2.2.2.1.1; omega) e, ⟨by rw [yr]; exact r1, by rw [yL]; exact r2, by rw [yk]; exact r3, by rw [yh]; exact r4, by rw [y53]; exact r5, fun b => by rw [yo]; exact r6 b, by rw [yol]; exact r7⟩, ⟨by rw [yo]; exact o6, by rw [yo]; exact o8, by rw [yo]; exact o12, by rw [y38]; exact i38, by rw [y21]; exact i21, by rw [kp.2.2.2.1]; exact i34⟩, h6, h7, h8, h9, ?_, h11, h12⟩
  have e44 : eI X = eI R := by
    unfold eI plI
    rw [kp.2.2.2.2.2.2.2.1, kp.2.2.2.2.2.2.2.2.1]
  rw [e44]
  exact h10
/-- one token on in both -/
theorem TRW.nx {N : Nat} (hN : 1000 ≤ N) {d : Int32} {T a m : Nat} {P pp R : CS} {s1 q u : RS} {p f : Int} {wh wr : Int32} {A : Unit × CS} (h : TRW d T a m P pp s1 p f wh wr R q) (nz : ¬ R.i 43 = 0) (e : f_X9_advance N R = some A) (g : f_X12_next N q = some u) : TRW d T a m P pp s1 (p + 1) (f + 3) wh wr A.2 u := by
  obtain ⟨h1, h2, h3, ⟨r1, r2, r3, r4, r5, r6, r7⟩, ⟨o6, o8, o12, i38, i21, i34⟩, ⟨f1, f2, f3⟩, ⟨c1, c2, c3, c4, c5, c6, c7, c8, c9⟩, ⟨n1, n2, n3, n4⟩, ⟨p1, p2, p3, p4⟩, h10, ⟨k64, k66, k67⟩, ⟨t1, t2⟩⟩ := h
  obtain ⟨v1, v2, v3, v4, v5, v6, v7, v8, v9, v10, v11, v12⟩ := h1.adv hN nz e g
  obtain ⟨-, -, -, -, -, -, -, -, -, -, -, -, y38, -, y53, y54, y55, -, -, -, -, -, y52, yr, yo, yol, -, y21, ⟨yh, yL, yk⟩⟩ := pj_eq v3
  obtain ⟨x2, x3, x8, x18, x24, x29, x33, x38, x42, x43, x52, x53, x54, x55, x56, x59, x63, x75, xa1, xa4, xa25, xa26, xa27, xa28, xa30, xa34, xa37, xa40, xa41, xa44, xa46, xa47, xa48, xa49, xa50, xa51, xa57, xa58, xa60, xa61, xa62, xa64, xa65, xa66, xa67, xa68, xa69, xa70, xa71, xa72, xa73, xb9, xb39, xb45, xb74⟩ := qj_eq v2
  have tb : TBK q u := TBK.of v2 (by rw [v6]; exact Int.le_refl _) (fun j _ => by rw [v7])
  have gn := ((ADV.gain h1.1.2.2.2.2.2.2.1 v11).2.1 nz).2
  have a34 : A.2.i 34 = R.i 34 := v11.1.2 34 (by decide) (by decide) (by decide) (by decide)
  have n0 : 0 ≤ (P.i 53).toInt := by
    have := h3.2.2.2.1.1
    omega
  refine ⟨v1, qj_63 v2 h2, h3.cx n0 (CKX.of v3 v8 v9) y54 y55 y52, ⟨by rw [yr]; exact r1, by rw [yL]; exact r2, by rw [yk]; exact r3, by rw [yh]; exact r4, by rw [y53]; exact r5, fun b => by rw [yo]; exact r6 b, by rw [yol]; exact r7⟩, ⟨by rw [yo]; exact o6, by rw [yo]; exact o8, by rw [yo]; exact o12, by rw [y38]; exact i38, by rw [y21]; exact i21, by rw [a34]; exact i34⟩, ⟨f1.tr (FRB.of v2), f2.tr tb.1.r (by rw [c4]; exact Int.le_refl _) (by rw [c5]; exact Int.le_refl _) (by rw [c6]; exact Int.le_refl _), f3.tr (tb.2.wk f3.1)⟩, ⟨x2.trans c1, x3.trans c2, x8.trans c3, x38.trans c4, x43.trans c5, x56.trans c6, xa1.trans c7, xa4.trans c8, xb9.trans c9⟩, ⟨by omega, ?_, by omega, by rw [v10]; exact n4⟩, ⟨x59.trans p1, xa60.trans p2, xa61.trans p3, xa62.trans p4⟩, by omega, ⟨by rw [xa64]; exact k64, by rw [xa66]; exact k66, by rw [xa67]; exact k67⟩, ⟨by rw [x29]; exact t1, by rw [xa30]; exact t2⟩⟩
  have ph : phI u = phI q + 3 := by
    unfold phI
    rw [v6, v12]
    omega
  omega
theorem TRW.em {N : Nat} {d : Int32} {T a m : Nat} {P pp R : CS} {s1 q : RS} {p f : Int} {wh wr o x : Int32} {V : Int32 × RS} (h : TRW d T a m P pp s1 p f wh wr R q) (hp : 1 ≤ phI q) (g : f_X12_emit N q o x = some V) : TRW d T a m P pp s1 p (f - 1) wh wr R V.2 ∧ V.2.i 10 = q.i 10 := by
  obtain ⟨h1, h2, h3, h4, h5, ⟨f1, f2, f3⟩, ⟨c1, c2, c3, c4, c5, c6, c7, c8, c9⟩, ⟨n1, n2, n3, n4⟩, ⟨p1, p2, p3, p4⟩, h10, ⟨k64, k66, k67⟩, ⟨t1, t2⟩⟩ := h
  obtain ⟨v1, v2, v3, v4, v5, v6⟩ := h1.em hp g
  obtain ⟨kq, y10, y11, y12, y14, y15, y16, y17, y19, yl⟩ := qj2_eq v3
  obtain ⟨x2, x3, x8, x18, x24, x29, x33, x38, x42, x43, x52, x53, x54, x55, x56, x59, x63, x75, xa1, xa4, xa25, xa26, xa27, xa28, xa30, xa34, xa37, xa40, xa41, xa44, xa46, xa47, xa48, xa49, xa50, xa51, xa57, xa58, xa60, xa61, xa62, xa64, xa65, xa66, xa67, xa68, xa69, xa70, xa71, xa72, xa73, xb9, xb39, xb45, xb74⟩ := qj_eq kq
  exact ⟨⟨v1, qj_63 kq h2, h3, h4, h5, ⟨f1.tr (FRB.of kq), f2.tr v2.1.r (by rw [c4]; exact Int.le_refl _) (by rw [c5]; exact Int.le_refl _) (by rw [c6]; exact Int.le_refl _), f3.tr (v2.2.wk f3.1)⟩, ⟨x2.trans c1, x3.trans c2, x8.trans c3, x38.trans c4, x43.trans c5, x56.trans c6, xa1.trans c7, xa4.trans c8, xb9.trans c9⟩, ⟨by rw [y11]; exact n1, by omega, by rw [y17]; exact n3, by rw [y19]; exact n4⟩, ⟨x59.trans p1, xa60.trans p2, xa61.trans p3, xa62.trans p4⟩, h10, ⟨by rw [xa64]; exact k64, by rw [xa66]; exact k66, by rw [xa67]; exact k67⟩, ⟨by rw [x29]; exact t1, by rw [xa30]; exact t2⟩⟩, y10⟩
/-- the class's flag -/
theorem TRW.s8 {d : Int32} {T a m : Nat} {P pp R : CS} {s1 q : RS} {p f : Int} {wh wr v : Int32} (h : TRW d T a m P pp s1 p f wh wr R q) : TRW d T a m P pp s1 p f v wr (CS.setO R a 8 v) q := by
  obtain ⟨h1, h2, h3, ⟨r1, r2, r3, r4, r5, r6, r7⟩, ⟨o6, o8, o12, i38, i21, i34⟩, h6, h7, h8, h9, h10, h11, h12⟩ := h
  exact ⟨h1.gx (fun _ _ _ _ _ _ _ _ => rfl) ⟨rfl, rfl, rfl⟩ rfl rfl h1.sj h1.t21, h2, h3.so (k := 8) (w := v) ⟨by decide, by decide, by decide, by decide⟩, ⟨r1, r2, r3, r4, r5, fun b => (so_nk (by decide)).trans (r6 b), r7⟩, ⟨(so_nk (by decide)).trans o6, so_at, (so_nk (by decide)).trans o12, i38, i21, i34⟩, h6, h7, h8, h9, h10, h11, h12⟩
/-- what the code of a try's head is: the row's targets, what waits, depth and count as they were before it -/
def TRJ (A : JBA) (U : RS) (B : CS) (b : RS) (V0 : List RVW) (s0 : RS) (W : List RVW) (a x y z : Nat) (m : Int) (D E x9 x10 x11 : Int32) (R : CS) (q : RS) : Prop := JRG A U B b V0 s0 W (TRK U x y z (pcC R) (pcR q)) 0 1 (CS.setI R 38 D) (RS.setI q 52 E) ∧ (s0.i 11).toInt + 3 * (z : Int) + m ≤ (q.i 11).toInt ∧ q.i 52 = E + 1 ∧ R.o a 9 = x9 ∧ R.o a 10 = x10 ∧ (R.o a 11 = x11 ∧ R.o a 2 = D ∧ (q.a 31 y).toInt < 0)
theorem JRG.shn {A : JBA} {U : RS} {B : CS} {b : RS} {V0 : List RVW} {s0 : RS} {W : List RVW} {K : JKT} {a e : Int} {N : Nat} (hN : 1000 ≤ N) {d D E : Int32} {R : CS} {q u : RS} {P : Unit × CS} (m : Int) (h : JRG A U B b V0 s0 W K a e (CS.setI R 38 D) (RS.setI q 52 E)) (ew : ENW d R q) (nz : ¬ R.i 43 = 0) (e1 : f_X9_advance N R = some P) (g : f_X12_next N q = some u) (l : (R.i 44).toInt + m ≤ (P.2.i 44).toInt) : JRG A U B b V0 s0 W K (a - m) (e - m) (CS.setI P.2 38 D) (RS.setI u 52 E) := by
  obtain ⟨v1, v2, v3, -⟩ := ew.adv hN nz e1 g
  obtain ⟨-, -, -, -, -, -, -, -, -, -, -, -, -, i50, -, -, -, -, -, -, a48, a49, -, -, -, -, -, i21, -⟩ := pj_eq v3
  obtain ⟨x2, x3, x8, x18, x24, x29, x33, x38, x42, x43, x52, x53, x54, x55, x56, x59, x63, x75, xa1, xa4, xa25, xa26, xa27, xa28, xa30, xa34, xa37, xa40, -⟩ := qj_eq v2
  exact (h.cek (R := CS.setI P.2 38 D) m (pe.s38 (ke_X9_advance N R P e1)) i21 a48 a49 i50 l).se (u := RS.setI u 52 E) (qe.s52 (kre_f_X12_next N q u g)) ⟨x38, fun j _ => congrFun xa40 j⟩
/-- a token on; m: bytes -/
theorem em_31 {N : Nat} {s : RS} {o x : Int32} {V : Int32 × RS} (hz : f_X12_emit N s o x = some V) : V.2.a 31 = s.a 31 := by
  unfold f_X12_emit f_X12_emit_21 at hz
  by_cases c : (3000 : Int32) ≤ s.i 20
  · rw [if_pos c] at hz
    obtain ⟨-, hz⟩ := hf_ite hz
    cases hz
    rfl
  · rw [if_neg c] at hz
    obtain ⟨-, hz⟩ := hf_ite hz
    cases hz
    rfl
theorem TRJ.nx {A : JBA} {U : RS} {B : CS} {b : RS} {V0 : List RVW} {s0 : RS} {W : List RVW} {a x y z N : Nat} (hN : 1000 ≤ N) {m k : Int} {d D E x9 x10 x11 : Int32} {R : CS} {q u : RS} {P : Unit × CS} (h : TRJ A U B b V0 s0 W a x y z m D E x9 x10 x11 R q) (ew : ENW d R q) (nz : ¬ R.i 43 = 0) (e1 : f_X9_advance N R = some P) (g : f_X12_next N q = some u) (k0 : 0 ≤ k) (l : (R.i 44).toInt + k ≤ (P.2.i 44).toInt) : TRJ A U B b V0 s0 W a x y z (m + k) D E x9 x10 x11 P.2 u := by
  obtain ⟨h1, h2, h3, h4, h5, h6⟩ := h
  obtain ⟨v1, v2, v3, -⟩ := ew.adv hN nz e1 g
  have yo := (pj_eq v3).2.2.2.2.2.2.2.2.2.2.2.2.2.2.2.2.2.2.2.2.2.2.2.2.1
  have x52 := (qj_eq v2).2.2.2.2.2.2.2.2.2.2.1
  have z1 := ew.1.2.2.2.1.1
  have z2 := v1.1.2.2.2.1.1
  have pc : pcC P.2 = pcC R := pcC.pe (ke_X9_advance N R P e1)
  have pr : pcR u = pcR q := pcR.qe (kre_f_X12_next N q u g)
  refine ⟨?_, ?_, by rw [x52]; exact h3, by rw [yo]; exact h4, by rw [yo]; exact h5, by rw [yo, (qe_eq (kre_f_X12_next N q u g)).2.2.2.2.2.2.2.2.2.1]; exact h6⟩
  · rw [pc, pr]
    exact (h1.shn hN k ew nz e1 g l).imp (by omega) (by omega) (fun _ _ _ _ _ _ _ _ _ _ _ _ _ k => k)
  · rw [z1, z2] at l
    omega
/-- one resource, both at it -/
theorem tr_one {N : Nat} (hN : 1000 ≤ N) {d : Int32} {T a m : Nat} {P pp R : CS} {s1 q V : RS} {wh wr x1 : Int32} {W : Unit × CS} {K : RS → Int32 → Int32 → Option RS} {Q : Prop} {Aj : JBA} {U : RS} {B : CS} {b : RS} {V0 : List RVW} {s0 : RS} {Wr : List RVW} {x y : Nat} {D E x9 x10 x11 : Int32} (l19 : (s0.i 19).toInt ≤ 20) (hJ : Q → ∃ z : Nat, TRJ Aj U B b V0 s0 Wr a x y z 1 D E x9 x10 x11 R q) (hK : ∀ (y : RS) (v : Int32), ¬ y.i 15 = 0 → K y x1 v = some V → ¬ V.i 15 = 0) (hph : 0 ≤ phI s1 + 1) (h : TRW d T a m P pp s1 3 3 wh wr R q) (e : f_X7_openResource N R = some W) (g : (if (q.i 10) = 4 then (f_X12_can N q 1).bind fun p30 => (if p30.1 = 0 then (if (p30.2.i 15) = 0 then (if (p30.2.i 10) = 44 then K p30.2 x1 1 else K p30.2 x1 0) else K p30.2 x1 0) else (f_X12_emit N p30.2 32 (p30.2.i 14)).bind fun p35 => (f_X12_next N p35.2).bind fun p37 => (if (p37.i 15) = 0 then (if (p37.i 10) = 44 then K p37 x1 1 else K p37 x1 0) else K p37 x1 0)) else (f_X12_can N q 0).bind fun p19 => (if p19.1 = 0 then (if (p19.2.i 15) = 0 then (if (p19.2.i 10) = 44 then K p19.2 x1 1 else K p19.2 x1 0) else K p19.2 x1 0) else (f_X12_emit N p19.2 32 (p19.2.i 14)).bind fun p24 => (f_X12_next N p24.2).bind fun p26 => (if (p26.i 15) = 0 then (if (p26.i 10) = 44 then K p26 x1 1 else K p26 x1 0) else K p26 x1 0))) = some V) : (¬ W.2.i 32 = 0 ∧ ¬ V.i 15 = 0) ∨ ∃ u : RS, TRW d T a m P pp s1 3 3 wh wr W.2 u ∧ (q.i 11).toInt + 1 ≤ (u.i 11).toInt ∧ (Q → ∃ z : Nat, TRJ Aj U B b V0 s0 Wr a x y z 0 D E x9 x10 x11 W.2 u) ∧ ((u.i 10 = 44 ∧ K u x1 1 = some V) ∨ (¬ u.i 10 = 44 ∧ K u x1 0 = some V)) := by
  have i4 := h.1.1.2.2.2.1.is (c := 4) (d := 4) (Or.inl ⟨by decide, by decide⟩) (by decide)
  unfold f_X7_openResource at e
  by_cases c : R.i 43 = 4
  · have k := i4.mp c
    rw [e_fnd1 c, ob_some, if_neg n10] at e
    obtain ⟨ad, ead, e⟩ := hf_bind e
    obtain ⟨av, eav, e⟩ := hf_bind e
    cases e
    rw [if_pos k, y_can1 h.1.1.2.1 (by rw [k]; decide), ob_some, if_neg n10] at g
    obtain ⟨em, hem, g⟩ := hf_bind g
    obtain ⟨nx, hnx, g⟩ := hf_bind g
    have ph := h.2.2.2.2.2.2.2.1.2.1
    obtain ⟨h2, -⟩ := (h.kd (kd_X0_add N R 55 _ ad ead)).em (by omega) hem
    have z43 : ad.2.i 43 = 4 := (pj2_eq (kd_X0_add N R 55 _ ad ead)).2.2.2.2.2.2.2.1.trans c
    have h3 := h2.nx hN (by rw [z43]; decide) eav hnx
    have l11 : (q.i 11).toInt + 1 ≤ (nx.i 11).toInt := by
      obtain ⟨-, -, -, -, z, -⟩ := h2.1.adv hN (by rw [z43]; decide) eav hnx
      obtain ⟨-, -, z3, -, -, -⟩ := h.1.em (by omega) hem
      have z4 := (qj2_eq z3).2.2.1
      rw [z4] at z
      exact z
    rw [if_pos h3.1.1.2.1] at g
    have kk := pj2_eq (kd_X0_add N R 55 _ ad ead)
    refine Or.inr ⟨nx, h3.nu (by omega) (by omega), l11, fun hq => ?_, ?_⟩
    · obtain ⟨z, j1, j2, j3, j4, j5, j6⟩ := hJ hq
      have q20 := (i20_hw h.1).1
      have q11 := (i20_hw h.1).2
      have g44 := h.1.1.2.2.2.1.1
      have v45 : R.i 45 = q.i 14 := h.1.1.2.2.2.1.2.2.2.2.2 (Or.inr (Or.inr (Or.inl c)))
      have e11 : em.2.i 11 = q.i 11 := (qj2_eq (h.1.em (by omega) hem).2.2.1).2.2.1
      have e52 : em.2.i 52 = q.i 52 := (qj_eq (qj2_eq (h.1.em (by omega) hem).2.2.1).1).2.2.2.2.2.2.2.2.2.2.1
      have y1 := JRG.opr j1 (add_sh (D := D) ead) (show (R.i 44).toInt ≤ 900 by rw [g44]; exact q11.2) (by omega) (em_sh (E := E) hem) q20 v45 l19 (by omega)
      have aol : ad.2.o = R.o := (pj_eq kk.1).2.2.2.2.2.2.2.2.2.2.2.2.2.2.2.2.2.2.2.2.2.2.2.2.1
      have adv := (h2.1.adv hN (by rw [z43]; decide) eav hnx).2.2.2.2.2.2.2.2.2.2.1
      have gain := (ADV.gain h2.1.1.2.2.2.2.2.2.1 adv).2.2.2.2.1 (Or.inr (by rw [z43]; decide))
      obtain ⟨v1, v2, v3, -⟩ := h2.1.adv hN (by rw [z43]; decide) eav hnx
      have yo := (pj_eq v3).2.2.2.2.2.2.2.2.2.2.2.2.2.2.2.2.2.2.2.2.2.2.2.2.1
      have x52 := (qj_eq v2).2.2.2.2.2.2.2.2.2.2.1
      have pc : pcC av.2 = pcC ad.2 := pcC.pe (ke_X9_advance N ad.2 av eav)
      have pr : pcR nx = pcR em.2 := pcR.qe (kre_f_X12_next N em.2 nx hnx)
      have y2 := JRG.shn hN (R := ad.2) (q := em.2) 2 y1 h2.1 (by rw [z43]; decide) eav hnx gain.2.1
      have g1 : (em.2.i 11).toInt + 2 ≤ (nx.i 11).toInt := by
        have g2 := gain.2.1
        unfold plI at g2
        rw [h2.1.1.2.2.2.1.1, v1.1.2.2.2.1.1] at g2
        exact g2
      rw [e11] at g1
      refine ⟨z + 1, ?_, by omega, by rw [x52, e52]; exact j3, by rw [yo, aol]; exact j4, by rw [yo, aol]; exact j5, by rw [yo, aol, (qe_eq (kre_f_X12_next N em.2 nx hnx)).2.2.2.2.2.2.2.2.2.1, em_31 hem]; exact j6⟩
      rw [pc, pr]
      exact y2.imp (by omega) (by omega) (fun _ _ _ _ _ _ _ _ _ _ _ _ _ k => k)
    by_cases c4 : nx.i 10 = 44
    · rw [if_pos c4] at g
      exact Or.inl ⟨c4, g⟩
    · rw [if_neg c4] at g
      exact Or.inr ⟨c4, g⟩
  · have k : ¬ q.i 10 = 4 := fun z => c (i4.mpr z)
    rw [e_fnd0 c, ob_some, if_pos rfl] at e
    obtain ⟨mi, emi, e⟩ := hf_bind e
    cases e
    rw [if_neg k] at g
    obtain ⟨f, hf, g⟩ := hf_bind g
    obtain ⟨fa, fb⟩ := y_can0 hf
    rw [if_pos fa, if_neg fb] at g
    exact Or.inl ⟨y_misp emi, hK f.2 0 fb g⟩
/-- the rest of the resources -/
theorem tr_loop {N : Nat} (hN : 1000 ≤ N) {d : Int32} {T a m : Nat} {P pp : CS} {s1 V : RS} {wh wr x1 : Int32} {W : Unit × CS} {Q : Prop} {Aj : JBA} {U : RS} {B : CS} {b : RS} {V0 : List RVW} {s0 : RS} {Wr : List RVW} {x y : Nat} {D E x9 x10 x11 : Int32} (l19 : (s0.i 19).toInt ≤ 20) (hph : 0 ≤ phI s1 + 1) : ∀ (k n : Nat) (R : CS) (q : RS) (x2 : Int32), TRW d T a m P pp s1 3 3 wh wr R q → (Q → ∃ z : Nat, TRJ Aj U B b V0 s0 Wr a x y z 0 D E x9 x10 x11 R q) → 0 ≤ x2.toInt → x2.toInt ≤ (q.i 11).toInt → f_X7_beginTry_106 N n R x2 = some W → ((q.i 10 = 44 ∧ f_X12_trying_140 N k q x1 1 = some V) ∨ (¬ q.i 10 = 44 ∧ f_X12_trying_140 N k q x1 0 = some V)) → (¬ W.2.i 32 = 0 ∧ ¬ V.i 15 = 0) ∨ ∃ (R' : CS) (u : RS), TRW d T a m P pp s1 3 3 wh wr R' u ∧ (Q → ∃ z : Nat, TRJ Aj U B b V0 s0 Wr a x y z 0 D E x9 x10 x11 R' u) ∧ f_X7_beginTry_132 N R' = some W ∧ f_X12_trying_215 N u x1 = some V
  | 0, _, _, _, _, _, _, _, _, _, g => by
    rcases g with ⟨-, g⟩ | ⟨-, g⟩ <;> cases g
  | k + 1, 0, _, _, _, _, _, _, _, e, _ => by cases e
  | k + 1, n + 1, R, q, x2, h, hJ, h0, hx, e, g => by
    have e' : b_X7_beginTry_106 N (f_X7_beginTry_106 N n) R x2 = some W := e
    unfold b_X7_beginTry_106 at e'
    have i44 := h.1.1.2.2.2.1.is (c := 44) (d := 44) (Or.inl ⟨by decide, by decide⟩) (by decide)
    rcases g with ⟨c, g⟩ | ⟨c, g⟩
    · have g' : b_X12_trying_140 N (f_X12_trying_140 N k) q x1 1 = some V := g
      unfold b_X12_trying_140 at g'
      rw [if_neg n10, if_pos h.1.1.2.1] at g'
      obtain ⟨nx, hnx, g'⟩ := hf_bind g'
      have c43 := i44.mpr c
      have n9 : ¬ (900 : Int32) ≤ x2 := fun z => by
        have e9 : (900 : Int32).toInt = 900 := by decide
        have z1 := le_int z
        have z2 := (i20_hw h.1).2
        have z3 := h.1.1.2.2.2.2.2.2.1.2.2.2.1 (by rw [c43]; decide)
        have z4 := h.1.1.2.2.2.1.1
        have z5 := h.1.1.2.2.2.1.2.1
        have z6 := h.1.1.2.2.2.2.1
        have z7 := h.1.1.2.2.1.2.1
        rw [z4, z5] at z3
        omega
      rw [if_neg n9] at e'
      obtain ⟨v, ev, e'⟩ := hf_bind e'
      obtain ⟨av, eav, hv⟩ := e_skip1 c43 ev
      rw [hv, if_neg n10] at e'
      obtain ⟨w, ew, e'⟩ := hf_bind e'
      have h2 := h.nx hN (by rw [c43]; decide) eav hnx
      have l11 : (q.i 11).toInt + 1 ≤ (nx.i 11).toInt := by
        obtain ⟨-, -, -, -, z, -⟩ := h.1.adv hN (by rw [c43]; decide) eav hnx
        exact z
      have jn : Q → ∃ z : Nat, TRJ Aj U B b V0 s0 Wr a x y z 1 D E x9 x10 x11 av.2 nx := fun hq => by
        obtain ⟨z, j1⟩ := hJ hq
        obtain ⟨v1, -⟩ := h.1.adv hN (by rw [c43]; decide) eav hnx
        have z1 := h.1.1.2.2.2.1.1
        have z2 := v1.1.2.2.2.1.1
        exact ⟨z, j1.nx hN h.1 (by rw [c43]; decide) eav hnx (k := 1) (by omega) (by rw [z1, z2]; exact l11)⟩
      rcases tr_one hN (K := f_X12_trying_140 N k) l19 jn (fun y v z hz => krf_f_X12_trying_140 N k y x1 v V hz z) hph (h2.nu (by omega) (by omega)) ew g' with ⟨z1, z2⟩ | ⟨u, h3, l2, hj3, h4⟩
      · refine Or.inl ⟨?_, z2⟩
        rw [kF_X7_beginTry_106 N n w.2 (x2 + 1) W e' z1]
        exact z1
      · have x21 : (x2 + 1).toInt = x2.toInt + 1 := ad1 h0 (by have := (i20_hw h.1).2.2; omega)
        exact tr_loop hN l19 hph k n w.2 u (x2 + 1) h3 hj3 (by omega) (by omega) e' h4
    · have g' : b_X12_trying_140 N (f_X12_trying_140 N k) q x1 0 = some V := g
      unfold b_X12_trying_140 at g'
      rw [if_pos rfl] at g'
      have c43 : ¬ R.i 43 = 44 := fun z => c (i44.mp z)
      refine Or.inr ⟨R, q, h, hJ, ?_, g'⟩
      by_cases n9 : (900 : Int32) ≤ x2
      · rw [if_pos n9] at e'
        exact e'
      · rw [if_neg n9, e_skip0 c43, ob_some, if_pos rfl] at e'
        exact e'
end
