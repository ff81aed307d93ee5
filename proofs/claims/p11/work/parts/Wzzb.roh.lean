/-! both readers: for over a row, its head whole -/
theorem ENV.s52 {d : Int32} {S : CS} {s : RS} {v : Int32} (h : ENV d S s) : ENV d S (RS.setI s 52 v) := h.kq rfl rfl rfl rfl rfl rfl rfl rfl rfl rfl rfl rfl rfl rfl rfl rfl rfl rfl rfl rfl ⟨h.2.2.2.2.2.2.1, h.2.2.2.2.2.2.2.1⟩ (h.wp.of (Int.le_refl _) rfl rfl rfl rfl rfl)
theorem TBK.s52 {s u : RS} {v : Int32} (h : TBK (RS.setI s 52 v) u) : TBK9 s u := by
  obtain ⟨⟨⟨a1, a2, a3, a4, a5, -, a7, a8, a9, a10⟩, r⟩, c⟩ := h
  have r' : TBR s u := r
  exact ⟨⟨⟨a1, a2, a3, a4, a5, trivial, a7, a8, a9, a10⟩, r'⟩, c⟩
set_option maxHeartbeats 4000000 in
theorem ro_head {N : Nat} (hN : 1000 ≤ N) {E1 : CS → Option (Unit × CS)} {E2 : CS → Option (Int32 × CS)} (hm1 : ∀ σ, Kf (CS.i σ 32) (E1 σ)) (hm2 : ∀ σ, Kf (CS.i σ 32) (E2 σ)) (hE : SXR N 18 E1) {d : Int32} {B : CS} {b : RS} {t0 T n : Nat} {L : List CEL} {x : Int} {S P : CS} {s q V U : RS} {c : CEL} {l : Int64} {W : Option Nat × CS} {R : Unit × CS} {A : JBA} (hC : COR d B b t0 (c :: L) x S s) (q1 : TOP S s c) (q2 : LOW S s c) (q3 : T = ceT c + wid (S.o c.2.1 0)) (hT : t0 ≤ T) (hm : NMC c S) (hx : S.o c.2.1 0 = 303 → x = -3) (hB : BOT b S (c :: L)) (w : WAY (d + 1) T 7 11 1 (-4) 2 S s P q) (jg : KU3 U s → JRW A U B b (vws S s (c :: L)) S s → JRG A U B b (vws S s (c :: L)) s [] (JQA U 1264 0 (pcC P) (pcR q) JQZ) (-7) (-8) P q) (k10 : q.i 10 = 58) (k64 : q.a 64 T = 12) (k71 : q.a 71 T = S.i 50) (k74 : q.b 74 T = l) (fr : ∀ k : Nat, (k : Int) < (q.i 38).toInt → ¬ q.b 39 k = l) (e : f_X7_rowHead N E1 E2 P l = some W) (e2 : f_X7_beginFor_85 N E1 E2 W.2 (S.i 50) W.1 = some R) (hV : f_X12_forHead_76 N q (q.i 63) 1 = some V) (g : f_X12_parse_10 N n V = some U) : (¬ R.2.i 32 = 0 ∧ ¬ U.i 15 = 0) ∨ DMD d B R.2 U ∨ ∃ (m : Nat) (u : RS), f_X12_parse_10 N m u = some U ∧ NEW d B b t0 c L R.2 u (JTR A U B b (c :: L) S s) := by
  have hvS := hC.1
  have h8 := hC.2.2.2.2.2.2.2.2.1.2.1
  have t21 := hC.2.2.2.2.2.2.2.2.1.1
  have q54 := hC.2.2.2.2.2.2.2.2.1.2.2
  have ph0 := hvS.2.2.2.2.2.2.2.1
  -- the class, taken apart
  unfold f_X7_rowHead at e
  obtain ⟨y1, ey1, e⟩ := hf_bind e
  obtain ⟨y5, ey5, e⟩ := hf_bind e
  obtain ⟨y9, ey9, e⟩ := hf_bind e
  obtain ⟨y13, ey13, e⟩ := hf_bind e
  obtain ⟨y17, ey17, e⟩ := hf_bind e
  obtain ⟨y21, ey21, e⟩ := hf_bind e
  obtain ⟨y25, ey25, e⟩ := hf_bind e
  obtain ⟨y29, ey29, e⟩ := hf_bind e
  obtain ⟨y33, ey33, e⟩ := hf_bind e
  obtain ⟨y37, ey37, e⟩ := hf_bind e
  obtain ⟨y41, ey41, e⟩ := hf_bind e
  obtain ⟨y45, ey45, e⟩ := hf_bind e
  obtain ⟨y49, ey49, e⟩ := hf_bind e
  obtain ⟨pp, a, epp, ra, hy49⟩ := pl_in ey49
  rw [hy49] at e
  have e' : some ((some a), CS.setO (CS.setO pp.2 a 10 y1.1) a 9 y5.1) = some W := e
  cases e'
  have e2' : (if oK (CS.setO (CS.setO pp.2 a 10 y1.1) a 9 y5.1) a 0 then some ((), CS.setO (CS.setO (CS.setO pp.2 a 10 y1.1) a 9 y5.1) a 3 (S.i 50)) else none) = some R := e2
  obtain ⟨-, e2'⟩ := hf_ite e2'
  cases e2'
  have f17 : ¬ y17.2.i 32 = 0 → ¬ pp.2.i 32 = 0 := fun z => by
    have z1 : ¬ y21.2.i 32 = 0 := by rw [kF_X0_aim N y17.2 y1.1 y21 ey21 z]; exact z
    have z2 : ¬ y25.2.i 32 = 0 := by rw [fst_add ey25]; exact z1
    have z3 : ¬ y29.2.i 32 = 0 := by rw [fst_add ey29]; exact z2
    have z4 : ¬ y33.2.i 32 = 0 := by rw [fst_add ey33]; exact z3
    have z5 : ¬ y37.2.i 32 = 0 := by rw [fst_add ey37]; exact z4
    have z6 : ¬ y41.2.i 32 = 0 := by rw [kF_X7_tell N y37.2 l y41 ey41 z5]; exact z5
    have z7 : ¬ y45.2.i 32 = 0 := by rw [fst_add ey45]; exact z6
    rw [kF_X6_push N y45.2 304 _ _ pp epp z7]
    exact z7
  have f13 : ¬ y13.2.i 32 = 0 → ¬ pp.2.i 32 = 0 := fun z => f17 (by rw [kF_X1_close N y13.2 41 y17 ey17 z]; exact z)
  show (¬ pp.2.i 32 = 0 ∧ ¬ U.i 15 = 0) ∨ DMD d B (CS.setO (CS.setO (CS.setO pp.2 a 10 y1.1) a 9 y5.1) a 3 (S.i 50)) U ∨ ∃ (m : Nat) (u : RS), f_X12_parse_10 N m u = some U ∧ NEW d B b t0 c L (CS.setO (CS.setO (CS.setO pp.2 a 10 y1.1) a 9 y5.1) a 3 (S.i 50)) u (JTR A U B b (c :: L) S s)
  -- the reference, to the values' end
  have k43 := (tk_is w.1 (a := 58) (b := 58) (Or.inl ⟨by decide, by decide⟩) (by decide)).mpr k10
  have n11 := w.2.2.2.2.2.2.1.1
  have n21 := w.2.2.2.2.2.2.2.1
  have w1 := w.nt (by omega) ey1
  have n21' := w1.2.2.2.2.2.2.2.1
  have w2 := w1.nt (by omega) ey5
  unfold f_X12_forHead_76 f_X12_forHead_142 at hV
  obtain ⟨nx, hnx, hV⟩ := hf_bind hV
  rw [if_neg n10] at hV
  obtain ⟨w3, f3⟩ := w2.nx hN (by rw [(nt_i ey5).2.1, (nt_i ey1).2.1, k43]; decide) ey9 hnx
  obtain ⟨ft3, -⟩ := FRB.ft (T := T) f3
  have hV' : (if (nx.i 10) = 434 then (f_X12_next N nx).bind fun p45 => (f_X12_emit N p45 20 1).bind fun p47 => some (RS.setA p47.2 65 T 12) else (f_X12_then N (RS.setA nx 68 T 0) 10 16).bind fun p43 => some p43) = some V := by
    rw [tp_nat w.2.1] at hV
    by_cases c4 : nx.i 10 = 434
    · rw [if_pos c4] at hV ⊢
      obtain ⟨p45, h45, hV⟩ := hf_bind hV
      obtain ⟨p47, h47, hV⟩ := hf_bind hV
      obtain ⟨-, hV⟩ := hf_ite hV
      rw [h45, ob_some, h47, ob_some]
      exact hV
    · rw [if_neg c4] at hV ⊢
      obtain ⟨-, hV⟩ := hf_ite hV
      exact hV
  have hs11 := (i11_hi hvS).1
  have jgv : KU3 U s ∧ JRW A U B b (vws S s (c :: L)) S s → JRG A U B b (vws S s (c :: L)) s [tv y5.1, tv y1.1] (JQA U 1264 0 (pcC y9.2) (pcR nx) JQZ) (-8) (-7) y9.2 nx := fun hJ => by
    have h1 : (P.i 44).toInt = (q.i 11).toInt := by rw [w.1.p44.1]
    have h2 : (y1.2.i 44).toInt = (q.i 11).toInt := by rw [w1.1.p44.1]
    have g6 := (i11_hi w.1).2
    have j1 := (((jg hJ.1 hJ.2).nt ey1 (by omega) (by omega)).nt ey5 (by omega) (by omega)).adv hN w2.1 (by rw [(nt_i ey5).2.1, (nt_i ey1).2.1, k43]; decide) ey9 hnx
    have n1 : y1.2.i 20 = P.i 20 := by
      unfold f_X0_newTarget at ey1
      cases ey1
      rfl
    have n2 : y5.2.i 20 = y1.2.i 20 := by
      unfold f_X0_newTarget at ey5
      cases ey5
      rfl
    have pc1 : pcC y9.2 = pcC P := (pcC.pe (ke_X9_advance N y5.2 y9 ey9)).trans (by unfold pcC; rw [n2, n1])
    have pr1 : pcR nx = pcR q := pcR.qe (kre_f_X12_next N q nx hnx)
    exact j1.imp (by omega) (by omega) (fun _ _ _ _ _ _ _ _ _ _ _ _ _ k => by rw [pc1, pr1]; exact k)
  rcases ro_val hN hm1 hm2 hE ph0 hs11 (fun hJ => hJ.1.2) jgv (w3.nu (by omega) (by omega) (by omega) (by omega) (by omega)) (ft3.1.trans k64) (ft3.2.2.2.2.2.2.1.trans k71) (((f3 (T + 1) T (by omega)).2.2.2.2.2.2.2.2.2.2).trans k74) ey13 hV' g with ⟨z1, z2⟩ | ⟨m3, u, g3, w4, u64, u65, u71, u74, rwj⟩
  · exact Or.inl ⟨f13 z1, z2⟩
  -- state 12
  obtain ⟨m4, V4, hV4, g4⟩ := rl_12 g3 w4.2.1 w4.1.1.2.1 u64
  unfold f_X12_fors at hV4
  obtain ⟨-, hV4⟩ := hf_ite hV4
  rw [tp_nat w4.2.1, if_neg (show ¬ u.a 65 T = 0 by rw [u65]; decide), if_neg (show ¬ u.a 65 T = 1 by rw [u65]; decide), if_neg (show ¬ u.a 65 T = 2 by rw [u65]; decide), if_neg (show ¬ u.a 65 T = 3 by rw [u65]; decide), if_neg (show ¬ u.a 65 T = 4 by rw [u65]; decide), if_neg (show ¬ u.a 65 T = 5 by rw [u65]; decide), if_neg (show ¬ u.a 65 T = 6 by rw [u65]; decide), if_neg (show ¬ u.a 65 T = 7 by rw [u65]; decide), if_neg (show ¬ u.a 65 T = 8 by rw [u65]; decide), ob_id] at hV4
  unfold f_X12_rows at hV4
  obtain ⟨-, hV4⟩ := hf_ite hV4
  rw [tp_nat w4.2.1, if_neg (show ¬ u.a 65 T = 10 by rw [u65]; decide), if_pos u65, u74] at hV4
  obtain ⟨z, hz, hV4⟩ := hf_bind hV4
  obtain ⟨sh, hsh, hV4⟩ := hf_bind hV4
  obtain ⟨em, hem, hV4⟩ := hf_bind hV4
  obtain ⟨-, hV4⟩ := hf_ite hV4
  obtain ⟨G, hG, hV4⟩ := hf_bind hV4
  rw [ob_id] at hV4
  have fu : ∀ k : Nat, (k : Int) < (u.i 38).toInt → ¬ u.b 39 k = l := fun k hk => by
    have z1 := w.2.2.2.1.1
    have z2 := w4.2.2.2.1.1
    rw [z2.1.2.2.2.1] at hk
    rw [(z2.2.1 k hk).1, ← (z1.2.1 k hk).1]
    exact fr k (by rw [z1.1.2.2.2.1]; exact hk)
  have hD : pj2 y37.2 = pj2 y17.2 := (kd_X0_add N y33.2 38 _ y37 ey37).trans ((kd_X0_add N y29.2 51 0 y33 ey33).trans ((kd_X0_add N y25.2 31 _ y29 ey29).trans ((kd_X0_add N y21.2 37 _ y25 ey25).trans (kd_X0_aim N y17.2 y1.1 y21 ey21))))
  rcases ro_shut hN w4 hvS (by omega) (by omega) h8 fu ey17 hD ey41 hz hsh with ⟨o1, o2, o3⟩ | ⟨o1, w5, f5, sh20, sh11, c44, sh38, sh40⟩
  · refine Or.inl ⟨f17 o2, u_flt g4 (krf_f_X12_body N _ 13 V4 hV4 ?_)⟩
    show ¬ G.2.i 15 = 0
    have z1 : ¬ em.2.i 15 = 0 := krf_f_X12_emit N _ 24 0 em hem o3
    exact krf_f_X12_loopGoal N _ G hG z1
  obtain ⟨ft5, -⟩ := FRB.ft (T := T) f5
  have w6 : WAZ d T 10 17 0 (-6) 4 S s y45.2 sh.2 := (w5.ad ey45).nu (by omega) (by omega) (by omega) (by omega) (by omega)
  have lo6 := w6.lo
  -- the reference's state before its goal
  obtain ⟨s5, hs5⟩ : ∃ y, y = RS.setI sh.2 52 (sh.2.i 52 + 1) := ⟨_, rfl⟩
  have ev5 : ENV d y45.2 s5 := by rw [hs5]; exact w6.1.s52
  have tp5 : tpI s5 = (T : Int) := by rw [hs5]; exact w6.2.1
  have ph5 : phI s5 = phI sh.2 := by rw [hs5]; rfl
  have i5 : ∀ k : Nat, k ≠ 52 → s5.i k = sh.2.i k := by
    rw [hs5]
    exact fun k h => if_neg h
  have a5 : s5.a = sh.2.a ∧ s5.b = sh.2.b := by rw [hs5]; exact ⟨rfl, rfl⟩
  have i552 : s5.i 52 = sh.2.i 52 + 1 := by rw [hs5]; rfl
  have t5 : ∀ y : RS, TBK s5 y → TBK9 sh.2 y := by
    rw [hs5]
    exact fun y h => h.s52
  rw [← hs5] at hem
  clear hs5
  obtain ⟨n1, n2, n3, n4, n5, n6, n7, n8, n9, n10', n11'⟩ := y_emit ev5 tp5 (by omega) hem
  have qjm := (qj2_eq (em_env ev5 (by omega) hem).2.2.1).1
  obtain ⟨x59, x60, x61, x62, -⟩ := qj_p qjm
  have hG' : f_X12_loopGoal N (RS.setA (RS.setA em.2 66 T em.1) 23 (em.1).toNatClampNeg z.1) = some G := by
    have z1 : upd (em.2.a 66) T em.1 T = em.1 := if_pos rfl
    rw [z1] at hG
    exact hG
  obtain ⟨q', hq'⟩ : ∃ y, y = RS.setA (RS.setA em.2 66 T em.1) 23 (em.1).toNatClampNeg z.1 := ⟨_, rfl⟩
  have e23 : EQ23 (RS.setA em.2 66 T em.1) q' := by
    rw [hq']
    exact ⟨rfl, rfl, rfl, fun k hk => setA_nk hk⟩
  have evq : ENV d y45.2 q' := e23.env (setA_env (Or.inr (by omega)) n1)
  have tbq : TBK s5 q' := (n4.tr (setA_tbk (by omega))).tr e23.tbk
  have frq : ∀ r : Nat, r ≤ T → FRB r s5 q' := fun r hr => ((n3 r).tr (setA_frb (Or.inr ⟨by omega, by omega, hr⟩))).tr e23.frb
  have iq : q'.i = em.2.i := by rw [hq']; rfl
  have q66 : q'.a 66 T = em.1 := by
    rw [e23.2.2.2 66 (by decide)]
    exact setA_at
  have qa : ∀ k : Nat, k ≠ 23 → k ≠ 66 → q'.a k = em.2.a k := fun k h1 h2 => by
    rw [e23.2.2.2 k h1]
    exact setA_nk h2
  have q23 : q'.a 23 = upd (em.2.a 23) (em.1).toNatClampNeg z.1 := by rw [hq']; rfl
  rw [← hq'] at hG'
  clear hq'
  have ftm := (FRB.ft (T := T) n3).1
  have q64 : q'.a 64 T = 12 := by
    rw [qa 64 (by decide) (by decide), ftm.1, a5.1, ft5.1]
    exact u64
  have q71 : q'.a 71 T = S.i 50 := by
    rw [qa 71 (by decide) (by decide), ftm.2.2.2.2.2.2.1, a5.1, ft5.2.2.2.2.2.2.1]
    exact u71
  have q20 : (q'.i 20).toInt = (sh.2.i 20).toInt + 1 := by
    rw [iq, n7, i5 20 (by decide)]
  have q11 : q'.i 11 = sh.2.i 11 := by rw [iq, n8, i5 11 (by decide)]
  have q17 : q'.i 17 = sh.2.i 17 := by rw [iq, n9, i5 17 (by decide)]
  have qph : phI q' = phI sh.2 - 1 := by
    have z1 : phI q' = phI em.2 := by
      unfold phI
      rw [iq]
    omega
  -- the class's row
  have evm : ENV d y45.2 q' := evq
  have sgP := w6.sg hvS
  have wpay := w6.pay hvS (by omega)
  obtain ⟨a', m, ra', psr, evR, sq⟩ := evm.row (v := 304) ⟨by decide, by decide, by decide, by decide⟩ wpay (by rw [if_neg (by decide), if_neg (by decide)]; exact sgP) (by rw [q11]; omega) epp
  have ea : a' = a := by
    rw [ra] at ra'
    cases ra'
    rfl
  rw [ea] at psr sq
  have f0x := psr.2.2.2.2.2.2.2.2.2.1
  have sqX := ((sq.so (k := 10) (w := y1.1) ⟨by decide, by decide, by decide, by decide⟩).so (k := 9) (w := y5.1) ⟨by decide, by decide, by decide, by decide⟩).so3 (w := S.i 50)
  have evX : ENV d (CS.setO (CS.setO (CS.setO pp.2 a 10 y1.1) a 9 y5.1) a 3 (S.i 50)) q' := ((evR.so (by decide)).so (by decide)).so (by decide)
  have o5X : (CS.setO (CS.setO (CS.setO pp.2 a 10 y1.1) a 9 y5.1) a 3 (S.i 50)).o a 5 = 0 := ((so_nk (by decide)).trans ((so_nk (by decide)).trans (so_nk (by decide)))).trans f0x.1
  have o7X : (CS.setO (CS.setO (CS.setO pp.2 a 10 y1.1) a 9 y5.1) a 3 (S.i 50)).o a 7 = 0 := ((so_nk (by decide)).trans ((so_nk (by decide)).trans (so_nk (by decide)))).trans f0x.2.2.1
  have x38 : (CS.setO (CS.setO (CS.setO pp.2 a 10 y1.1) a 9 y5.1) a 3 (S.i 50)).i 38 = y45.2.i 38 := psr.2.1 38 (by decide) (by decide)
  have x21' : (CS.setO (CS.setO (CS.setO pp.2 a 10 y1.1) a 9 y5.1) a 3 (S.i 50)).i 21 = y45.2.i 21 := psr.2.1 21 (by decide) (by decide)
  obtain ⟨X, hX⟩ : ∃ X, X = CS.setO (CS.setO (CS.setO pp.2 a 10 y1.1) a 9 y5.1) a 3 (S.i 50) := ⟨_, rfl⟩
  have peX : pe X = pe pp.2 := by rw [hX]; rfl
  have aX : X.a = pp.2.a := by rw [hX]; rfl
  have iX : X.i = pp.2.i := by rw [hX]; rfl
  have oX10 : X.o a 10 = y1.1 := by rw [hX]; exact (so_nk (by decide)).trans ((so_nk (by decide)).trans so_at)
  have oX9 : X.o a 9 = y5.1 := by rw [hX]; exact (so_nk (by decide)).trans so_at
  have oX2 : X.o a 2 = y45.2.i 38 := by rw [← psh_o2 epp ra, hX]; exact (so_nk (by decide)).trans ((so_nk (by decide)).trans (so_nk (by decide)))
  rw [← hX] at evX sqX o5X o7X x38 x21' ⊢
  clear hX
  obtain ⟨zX, ⟨r53, r54, -, -⟩, ⟨r50, -, -⟩, -, ⟨g0, -, g3', -⟩, -⟩ := id sqX
  refine Or.inr (lp_tail hC q1 q2 q3 hT hm hx hB w6 (by omega) (Or.inr (Or.inr (Or.inr rfl))) sqX g3' x38 o5X (fun z => by rcases z with z | z <;> exact absurd z (by decide)) ?_ (t5 q' tbq) ?_ evX hG' (Or.inr rfl) hV4 g4 ⟨by rw [q11]; exact Int.le_refl _, ?_, by rw [q17]; exact Int.le_refl _, ?_⟩ (by rw [x21', q11]; omega) (by rw [r54, q11]; omega) ⟨?_, ?_, ?_, ?_⟩ (fun u g w hu h1 h2 h3 => ?_) (fun u c1 k h1 h2 hu h3 => ?_) (fun u' c1 v2 v3 qu un uj uf R36 lpf pls ku jw => ?_))
  · intro j hj
    have z1 := frq T (Nat.le_refl T) j hj
    rw [a5.1, a5.2] at z1
    exact z1
  · show (q'.i 63).toInt = (T : Int)
    rw [iq]
    exact n2
  · show phI s + 2 ≤ phI q'
    omega
  · rw [iq, n10', i5 19 (by decide)]
    have z9 := w6.2.2.2.2.2.2.1.2.2.2
    omega
  · rw [iq, x59, i5 59 (by decide)]
  · rw [qa 60 (by decide) (by decide), x60, a5.1]
  · rw [qa 61 (by decide) (by decide), x61, a5.1]
  · rw [qa 62 (by decide) (by decide), x62, a5.1]
  · exact RFR.m304 g0 ⟨⟨(hu 64 (by decide) (by decide) (by decide) (by decide)).trans q64, h1, h2, (hu 71 (by decide) (by decide) (by decide) (by decide)).trans (q71.trans g3'.symm), h3⟩, o7X⟩
  · have hk : k = (sh.2.i 20).toInt := by
      unfold PLF at h3
      rw [h1, g0, h2] at h3
      rcases h3 with ⟨-, z⟩ | ⟨z, -⟩ | ⟨z | z, -⟩
      · rw [z, hu 66 (by decide) (by decide) (by decide) (by decide), q66, n6, i5 20 (by decide)]
      · exact absurd z (by decide)
      · exact absurd z (by decide)
      · exact absurd z (by decide)
    omega
  · have hin := hC.inl q1 q3
    have ckall : CKZ S X := w6.2.2.2.2.1.tr w6.2.2.2.2.2.1.2.1 zX
    have fr5 : FRB T s q' := fun j hj => by
      have z1 := frq T (Nat.le_refl T) j hj
      rw [a5.1, a5.2] at z1
      exact (w6.2.2.1.tr (fun j' hj' => by
        have z2 := frq T (Nat.le_refl T) j' hj'
        rw [a5.1, a5.2] at z2
        exact z2)) j hj
    have veq : vws X u' (c :: L) = vws S s (c :: L) := vws.eqf (T := T) (uf.2) (c :: L) hC.o3 (fun y hy => (hin.o ckall y hy).1) (fun k t h1 h2 h3 => (uf.1 k t h1 h2 h3).trans (fr5.fld k t h1 h2 h3)) (fun y hy => by
      have z1 := wid1 (S.o y.2.1 0)
      have z2 := (hin y hy).2.2.1
      omega)
    show JRW A U B b (vw X u' c1 :: vws X u' (c :: L)) X u'
    rw [veq] at pls ⊢
    obtain ⟨cnt, hc0, hc9, jr⟩ := rwj ⟨ku, jw⟩
    have pa1 := psr.1.1
    -- the class
    have g44 : (y13.2.i 44).toInt = (u.i 11).toInt := by rw [w4.1.p44.1]
    have g6 := (i11_hi w4.1).2
    have g44' : (y17.2.i 44).toInt = (sh.2.i 11).toInt := by rw [c44]
    have g6' := (i11_hi w6.1).2
    have j1 := jr.cec 1 (kc_X1_close N y13.2 41 y17 ey17) (ke_X1_close N y13.2 41 y17 ey17) (by omega)
    have j2 := JRG.aih (W1 := [cv y13.1 cnt, tv y5.1]) (W2 := []) (K' := fun FC SF nm X ω j Z => (cTg SF y1.1).toInt = ((pcC y17.2 : Nat) : Int) ∧ JAN (JRO y13.1 cnt) (JQE U 1264 y13.1.toNatClampNeg cnt.toNatClampNeg (pcC y13.2) (pcR u) JQZ) FC SF nm X ω j Z) j1 ey21 (by omega) (by omega) (fun FC SF nm X ω j Z h k => ⟨h, k⟩)
    have e21 : y21.2.i 20 = y17.2.i 20 ∧ y21.2.i 44 = y17.2.i 44 ∧ y21.2.i 50 = y17.2.i 50 := by
      unfold f_X0_aim at ey21
      cases ey21
      exact ⟨rfl, rfl, rfl⟩
    have e25 : y25.2.i 44 = y21.2.i 44 ∧ y25.2.i 50 = y21.2.i 50 := by
      unfold f_X0_add at ey25
      cases ey25
      exact ⟨rfl, rfl⟩
    have e29 : y29.2.i 44 = y25.2.i 44 ∧ y29.2.i 50 = y25.2.i 50 := by
      unfold f_X0_add at ey29
      cases ey29
      exact ⟨rfl, rfl⟩
    have e33 : y33.2.i 44 = y29.2.i 44 ∧ y33.2.i 50 = y29.2.i 50 := by
      unfold f_X0_add at ey33
      cases ey33
      exact ⟨rfl, rfl⟩
    have e37 : y37.2.i 44 = y33.2.i 44 ∧ y37.2.i 50 = y33.2.i 50 := by
      unfold f_X0_add at ey37
      cases ey37
      exact ⟨rfl, rfl⟩
    have j3 := (((j2.add ey25 (by rw [e21.2.1]; omega) (by omega)).add ey29 (by rw [e25.1, e21.2.1]; omega) (by omega)).add ey33 (by rw [e29.1, e25.1, e21.2.1]; omega) (by omega)).add ey37 (by rw [e33.1, e29.1, e25.1, e21.2.1]; omega) (by omega)
    have i17 : y17.2.i 50 = y13.2.i 50 := (pj_eq (kc_X1_close N y13.2 41 y17 ey17)).2.2.2.2.2.2.2.2.2.2.2.2.2.1
    have n50 : y37.2.i 50 = u.i 38 := by rw [e37.2, e33.2, e29.2, e25.2, e21.2.2, i17]; exact w4.1.2.1.1
    -- the reference
    obtain ⟨q0, hq0⟩ : ∃ y, y = RS.setI q' 52 (sh.2.i 52) := ⟨_, rfl⟩
    have q0i : ∀ k : Nat, k ≠ 52 → q0.i k = q'.i k := by rw [hq0]; exact fun k hk => if_neg hk
    have q052 : q0.i 52 = sh.2.i 52 := by rw [hq0]; rfl
    have q0a : q0.a = q'.a := by rw [hq0]; rfl
    clear hq0
    have p5 := ev5.p20
    have ph5' : 0 ≤ phI s5 := p5.2.1
    obtain ⟨m1, m2, m3', m4, m5, m6⟩ := cd_emit hem p5.1 (by omega)
    have emi : ∀ k : Nat, k ≠ 20 → em.2.i k = s5.i k := by
      unfold f_X12_emit f_X12_emit_21 at hem
      by_cases cc : (3000 : Int32) ≤ s5.i 20
      · have e3 : (3000 : Int32).toInt = 3000 := by decide
        have := le_int cc
        omega
      rw [if_neg cc] at hem
      obtain ⟨-, hem⟩ := hf_ite hem
      cases hem
      exact fun k hk => if_neg hk
    have ema : em.2.a 40 = s5.a 40 := by
      unfold f_X12_emit f_X12_emit_21 at hem
      by_cases cc : (3000 : Int32) ≤ s5.i 20
      · have e3 : (3000 : Int32).toInt = 3000 := by decide
        have := le_int cc
        omega
      rw [if_neg cc] at hem
      obtain ⟨-, hem⟩ := hf_ite hem
      cases hem
      rfl
    have q0s : ∀ k : Nat, k ≠ 52 → k ≠ 20 → q0.i k = sh.2.i k := fun k h1 h2 => by rw [q0i k h1, iq, emi k h2, i5 k h1]
    have s520 : s5.i 20 = sh.2.i 20 := i5 20 (by decide)
    have q020 : (q0.i 20).toInt = (sh.2.i 20).toInt + 1 := by rw [q0i 20 (by decide)]; exact q20
    have q0k : ∀ k : Nat, k ≠ 23 → k ≠ 66 → q0.a k = em.2.a k := fun k h1 h2 => by rw [q0a]; exact qa k h1 h2
    have ckm := clampI (show 0 ≤ em.1.toInt by rw [m2]; exact p5.1)
    have em1 : em.1.toInt = (sh.2.i 20).toInt := by rw [m2, s520]
    have k3s : CD2 (sh.2.i 20).toInt sh.2 q0 := by
      have m1' := m1.2
      rw [s520, a5.1] at m1'
      refine ⟨⟨by omega, by rw [q0s 24 (by decide) (by decide)]; exact Int.le_refl _, by rw [q0s 29 (by decide) (by decide)]; exact Int.le_refl _, by rw [q0s 33 (by decide) (by decide)]; exact Int.le_refl _, SLC.eq (q0s 42 (by decide) (by decide)) (by omega), q052⟩, fun j hj => ?_, fun j hj => ?_, fun j hj => ?_, fun j hj => ?_⟩
      · have z := m1'.1 j hj
        refine ⟨by rw [q0k 21 (by decide) (by decide)]; exact z.1, by rw [q0k 22 (by decide) (by decide)]; exact z.2.1, ?_⟩
        rw [q0a, q23]
        exact (if_neg (show ¬ j = em.1.toNatClampNeg by omega)).trans z.2.2
      · rw [q0k 25 (by decide) (by decide), q0k 26 (by decide) (by decide), q0k 27 (by decide) (by decide), q0k 28 (by decide) (by decide)]
        exact m1'.2.1 j (by rw [i5 24 (by decide)]; exact hj)
      · rw [q0k 30 (by decide) (by decide), q0k 31 (by decide) (by decide), q0k 32 (by decide) (by decide)]
        exact m1'.2.2.1 j (by rw [i5 29 (by decide)]; exact hj)
      · rw [q0k 34 (by decide) (by decide), q0k 35 (by decide) (by decide), q0k 36 (by decide) (by decide), q0k 37 (by decide) (by decide)]
        exact m1'.2.2.2 j (by rw [i5 33 (by decide)]; exact hj)
    have qsh : qe sh.2 = qe z.2 := kre_f_X12_shut N z.2 41 sh hsh
    have sz20 : sh.2.i 20 = z.2.i 20 := (qe_eq qsh).1.1
    have k3 : CD2 (z.2.i 20).toInt z.2 q0 := (CD2.qe qsh).tr (by rw [← sz20]; exact k3s)
    have prz : pcR z.2 = pcR s5 := by unfold pcR; rw [s520, sz20]
    have e1n : em.1.toNatClampNeg = pcR s5 := by rw [m2]; rfl
    have u20 := w4.1.p20
    have pc17 : pcC y17.2 = pcC y13.2 := pcC.pe (ke_X1_close N y13.2 41 y17 ey17)
    have pc21 : pcC y21.2 = pcC y17.2 := by unfold pcC; rw [e21.1]
    have j4 := j3.rwn (y := em.1) (u0 := q0) (K' := fun FC SF nm X ω j Z => PRT FC SF U nm X y5.1 em.1 ω (j.en [(4, j.h, y13.1.toNatClampNeg, cnt.toNatClampNeg, 0, 0, 0)]) → GU FC SF U nm X (pcC y45.2) (pcR q0) j.h (ω + j.l + 2528 - pcC y45.2) 0 ((4, j.h, y13.1.toNatClampNeg, cnt.toNatClampNeg, 0, 0, 0) :: j.c) → ((2 * j.h + msr j.c : Nat) : Int) ≤ (s.i 11).toInt → Z ∧ HE5 FC SF U nm X y1.1 em.1 ω (j.en [(4, j.h, y13.1.toNatClampNeg, cnt.toNatClampNeg, 0, 0, 0)])) (by rw [w4.2.2.2.1.1.1.2.2.2.1]; exact hC.2.2.2.2.2.1.2.1.1) n50 (nms_hi w4.1) (by rw [e37.1, e33.1, e29.1, e25.1, e21.2.1]; omega) ⟨u20.1, by omega⟩ ey41 hz ey45 k3 (by rw [q020, sz20]) ⟨by rw [prz, q0k 21 (by decide) (by decide)]; exact m4, by rw [prz, q0a, q23, e1n]; exact if_pos rfl⟩ (by rw [q0s 42 (by decide) (by decide)]; exact (qe_eq qsh).1.2.2.2.2.1) (by rw [q0s 38 (by decide) (by decide)]; exact sh38) (by rw [q0k 40 (by decide) (by decide), ema, a5.1]; exact sh40) (by rw [m2, s520, sz20]) (by omega) (by omega) (fun FC SF nm X ω j Z sf uf' nmf k prt gu hh => by
      obtain ⟨s1, s2, s3, s4⟩ := sf
      obtain ⟨u1, u2, u3, u4, u5⟩ := uf'
      obtain ⟨⟨h1, h2, h3, h4⟩, ⟨f1, f2, f3, f4⟩, ⟨g1', g2', g3', g4'⟩, ⟨t1, t2, t3, t4⟩, ct, ⟨ro1, ro2⟩, kk⟩ := k
      rw [h4, f4, g4', t4] at s1 s2 s3 s4
      rw [f4, g4', t4] at h1 h2 h3
      rw [g4', t4] at f1 f2 f3
      rw [t4] at g1' g2' g3'
      rw [pc21, pc17] at s1 s2 s3 s4 h1 h2 h3 f1 f2 f3 g1' g2' g3' t1 t2 t3
      rw [pc17] at ct
      obtain ⟨cN, dN, nm1, nm2, nm3⟩ := nmf
      have cb := clampI ro1
      have h9 := (i11_hi hvS).2
      have pq : PQX SF U (pcC y13.2) (pcR u) := ⟨t3, u3⟩
      obtain ⟨pp', qq', w1', w2', w3'⟩ := prt
      rw [u5] at w2'
      rw [s4, u4] at gu
      have w3'' : GU FC SF U nm X pp' qq' j.h (ω + j.l - pp') 0 ((4, j.h, y13.1.toNatClampNeg, cnt.toNatClampNeg, 0, 0, 0) :: j.c) := w3'
      have head : ∀ g : Nat, GU FC SF U nm X (pcC y13.2) (pcR u) j.h (ω + j.l + 1264 - pcC y13.2) g ((4, j.h, y13.1.toNatClampNeg, cnt.toNatClampNeg, 0, 0, 0) :: j.c) := fun g => gi_URwn (pq.hc ro2) pq.2.1 ⟨⟨t1, g1', f1, h1, s1, by omega, u1⟩, ⟨by omega, by omega⟩, _, j.c, cN, dN, ω + j.l + 2528 - (pcC y13.2 + 1 + 1 + 1 + 1 + 1), rfl, rfl, ⟨by rw [t2]; exact cb.symm, by rw [h2]; exact cb.symm, by rw [s2]; exact nm1, by rw [u2]; exact nm2, nm3⟩, ⟨pp', qq', _, ⟨by rw [g2']; exact w1', w2'⟩, by omega, w3''⟩, by omega, gu⟩
      exact ⟨kk head, pcC y13.2, pcR u, ct, by rw [em1, sh20]; exact (Int.toNat_of_nonneg u20.1).symm, by omega, head 5⟩)
    have kp := ke_X6_push N y45.2 304 _ _ pp epp
    have hr : (vw X u' c1).v = 304 := show X.o c1.2.1 0 = 304 by rw [v2]; exact g0
    have r66 : (vw X u' c1).2.1 66 = em.1 := show (vw X u' c1).2.1 66 = _ by rw [vw_at (k := 66) ⟨by decide, by decide⟩, v3, uj 66 (by decide) (by decide) (by decide) (by decide)]; exact q66
    have r9 : (vw X u' c1).1 9 = y5.1 := show X.o c1.2.1 9 = y5.1 by rw [v2]; exact oX9
    have r10 : (vw X u' c1).1 10 = y1.1 := show X.o c1.2.1 10 = y1.1 by rw [v2]; exact oX10
    have jl : jlv (vw X u' c1).v = 2528 := by rw [hr]; rfl
    have en : ∀ (G : GHT) (ω h l : Nat), G (vw X u' c1).2.2.1 = (y13.1.toNatClampNeg, cnt.toNatClampNeg, []) → jen G ω (vw X u' c1) h l = [(4, h, y13.1.toNatClampNeg, cnt.toNatClampNeg, 0, 0, 0)] := fun G ω h l hG => by
      unfold jen
      rw [hr, if_neg (by decide), if_neg (by decide), if_neg (by decide), if_neg (by decide), if_pos rfl, hG]
      rfl
    have d1 : D38 y45.2 X := D38.of (peX.trans kp) x21' (by rw [iX]; exact psr.2.1 44 (by decide) (by decide))
    have d2 : D52 q0 u' := by
      have z1 : D52 q' u' := D52.of qu
      have z2 : D52 q0 q' := ⟨⟨(q0i 20 (by decide)).symm, (q0i 24 (by decide)).symm, (q0i 29 (by decide)).symm, (q0i 33 (by decide)).symm, (q0i 42 (by decide)).symm⟩, by rw [q0a], by rw [q0a], by rw [q0a], by rw [q0a], by rw [q0a], by rw [q0a], by rw [q0a], by rw [q0a], by rw [q0a], by rw [q0a], by rw [q0a], by rw [q0a], by rw [q0a], by rw [q0a]⟩
      exact z2.tr z1
    have pc5 : pcC X = pcC y45.2 := pcC.pe (peX.trans kp)
    have pr5 : pcR u' = pcR q0 := by unfold pcR; rw [d2.1.1]
    have l19 : (s.i 19).toInt ≤ (u'.i 19).toInt := by
      rw [un.2.2.2, iq, n10', i5 19 (by decide)]
      have z9 := w6.2.2.2.2.2.2.1.2.2.2
      omega
    have l11 : (s.i 11).toInt + 1 ≤ (u'.i 11).toInt := by rw [un.2.2.1, q11]; omega
    have u52 : u'.i 52 = sh.2.i 52 + 1 := ((qe_eq qu).1.2.2.2.2.2).trans (by rw [iq, emi 52 (by decide), i552])
    refine j4.psd (r := vw X u' c1) (y13.1.toNatClampNeg, cnt.toNatClampNeg, []) (fun z => z.ps (by rw [aX, pa1]) (by rw [aX, pa1]) (by rw [d32.yes (Or.inr (Or.inr (Or.inr (Or.inr hr)))), u52, q052]) (Int.le_of_eq (by rw [un.1, q0i 38 (by decide)]))) d1 d2 ⟨by omega, fun _ => by omega, ⟨fun _ => by rw [r10]; exact List.mem_cons_of_mem _ List.mem_cons_self, fun z => absurd (hr.symm.trans z) (by decide), by rw [hr]; decide⟩, fun z => absurd (hr.symm.trans z) (by decide), by rw [hr]; decide, by rw [hr]; decide⟩ (Or.inl (by omega)) lpf.1 l19 pls (fun y => ?_) (fun z => absurd (hr.symm.trans z) (by decide)) (by rw [hr]; decide) (fun k y => ?_) ?_ (fun _ => ⟨lpf.2.1, lpf.2.2.1, lpf.2.2.2.1, lpf.2.2.2.2.1, (show X.o c1.2.1 2 = y45.2.i 38 by rw [v2]; exact oX2), fun z => absurd (show dln (vw X u' c1).v = 0 from z) (by rw [hr]; decide), fun _ => (show u'.a 47 (ceG c1) = q0.i 52 + 1 by rw [lpf.2.2.2.2.2, u52, q052]), by rw [r9]; exact nt5 w1.1 ey5, fun _ => by rw [r10]; exact nt5 w.1 ey1, fun _ => by rw [r66, em1, sh20]; exact u20.1, fun z => absurd (hr.symm.trans z) (by decide)⟩) ⟨fun z => absurd (show dfr (vw X u' c1).v = 1 from z) (by rw [hr]; decide), fun y => by rcases y with y | y | y | y <;> rw [hr] at y <;> exact absurd y (by decide), by omega, fun z => absurd (hr.symm.trans z) (by decide), by rw [hr]; decide⟩ (fun nm G' ω j hG' ng fr wn hc hh => ?_) (fun FC SF nm X' G' col YJ ω j Z hG' hω r12 hc hh k jr' cur => ?_)
    · rcases y with y | y | y | y <;> rw [hr] at y <;> exact absurd y (by decide)
    · unfold rsite at y
      rw [hr] at y
      rcases y with ⟨-, y⟩ | ⟨y, -⟩ | ⟨y, -⟩ | ⟨y, -⟩
      · rw [r66] at y
        exact ⟨_, List.mem_cons_self, sv.site.mpr y⟩
      · exact absurd y (by decide)
      · rcases y with y | y <;> exact absurd y (by decide)
      · exact absurd y (by decide)
    · have e1 : rtgs (vw X u' c1) = [y5.1] := by
        unfold rtgs
        rw [hr, if_neg (by decide), if_pos (by decide), r9]
      have e2 : ptl [sv em.1, hv y1.1, cv y13.1 cnt, tv y5.1] = [y5.1] := by
        show rtgs (sv em.1) ++ (rtgs (hv y1.1) ++ (rtgs (cv y13.1 cnt) ++ (rtgs (tv y5.1) ++ []))) = _
        rw [sv.tgs, hv.tgs, cv.tgs, tv.tgs]
        rfl
      rw [e1]
      exact List.Perm.of_eq e2.symm
    · rw [en G' ω j.h j.l hG']
      have wn' : ∀ k : Nat, y13.1.toNatClampNeg ≤ k → k < y13.1.toNatClampNeg + 2 + cnt.toNatClampNeg → (k : Int) < (y45.2.i 23).toInt ∧ k < 720 ∧ (∀ l : Nat, ¬ nm k l) ∧ ∀ e ∈ j.c, ¬ cel e k := fun k k1 k2 => by
        have z := (wn (cv y13.1 cnt) (List.mem_cons_of_mem _ (List.mem_cons_of_mem _ List.mem_cons_self)) (Or.inl rfl)).1 rfl
        have cc := clampI hc0
        have cb := clampI (show 0 ≤ y13.1.toInt from z.1)
        exact z.2 k (show y13.1.toInt ≤ (k : Int) by omega) (show (k : Int) < y13.1.toInt + 2 + cnt.toInt by omega)
      have hc' := hc.row (fun k k1 k2 => (wn' k k1 k2).2)
      have n52 := ng.2.2.1
      have ml := msr_len j.c
      have h9 := (i11_hi hvS).2
      refine ⟨ng.push (e := (4, j.h, y13.1.toNatClampNeg, cnt.toNatClampNeg, 0, 0, 0)) (by rw [aX, pa1]) (by rw [aX, pa1]) ?_ ?_ ?_ ?_ ?_ ?_, hc', ?_⟩
      · rw [un.1, q0i 38 (by decide)]
      · rw [un.2.1, q0a]
      · rw [x38]
        show (y45.2.i 38).toInt = (y45.2.i 38).toInt + (if (4 : Nat) ≤ 3 then 1 else 0)
        rw [if_neg (by decide)]
        omega
      · rw [q052] at n52
        rw [u52, q052, ad1 (by omega) (by omega)]
      · show ((frs j.c + (if (4 : Nat) ≤ 3 then 1 else 0) : Nat) : Int) ≤ _
        rw [if_neg (by decide)]
        omega
      · have nc := ng.2.2.2
        refine ⟨?_, fun e he => ?_⟩
        · have z := nc.1
          unfold SLO at z ⊢
          rw [d2.1.2.2.2.2, d2.1.1]
          exact z
        · rcases List.mem_cons.mp he with rfl | he
          · exact ⟨fun k y => by
              rcases y with ⟨y, -⟩ | ⟨-, y1', y2'⟩
              · exact absurd (show (4 : Nat) = 2 from y) (by decide)
              · rw [d1.1.2.2.2.1]
                exact (wn' k y1' y2').1, fun l y => absurd (show (4 : Nat) = 2 from y.1) (by decide)⟩
          · rw [d1.1.2.2.2.1, d2.1.2.2.2.2]
            exact nc.2 e he
      · show ((2 * j.h + ((j.c.length + 1) + 3 * (ops j.c + 0)) : Nat) : Int) ≤ _
        have : ((2 * j.h + (j.c.length + 3 * ops j.c) : Nat) : Int) ≤ (s.i 11).toInt := hh
        omega
    · rw [en G' ω j.h j.l hG', jl, pc5, pr5] at cur
      have prt := (jr'.2.2.2.2.2.1 hr).1
      rw [r9, r66, en G' ω j.h j.l hG'] at prt
      have e9 : ω + (j.l + 2528) - pcC y45.2 = ω + j.l + 2528 - pcC y45.2 := by omega
      have c2 := (cur R36).1
      rw [e9] at c2
      have y := k prt c2 hh
      refine ⟨y.1, fun x => absurd (hr.symm.trans x) (by decide), fun x => absurd (hr.symm.trans x) (by decide), fun x => absurd (hr.symm.trans x) (by decide), fun _ => ?_, fun x => absurd (hr.symm.trans x) (by decide)⟩
      rw [r10, r66, en G' ω j.h j.l hG']
      exact y.2
