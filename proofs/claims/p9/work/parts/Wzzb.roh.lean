/-! both readers: for over a row, its head whole -/
theorem ENV.s52 {d : Int32} {S : CS} {s : RS} {v : Int32} (h : ENV d S s) : ENV d S (RS.setI s 52 v) := h.kq rfl rfl rfl rfl rfl rfl rfl rfl rfl rfl rfl rfl rfl rfl rfl rfl rfl rfl rfl rfl ⟨h.2.2.2.2.2.2.1, h.2.2.2.2.2.2.2.1⟩ (h.wp.of (Int.le_refl _) rfl rfl rfl rfl rfl)
theorem TBK.s52 {s u : RS} {v : Int32} (h : TBK (RS.setI s 52 v) u) : TBK9 s u := by
  obtain ⟨⟨⟨a1, a2, a3, a4, a5, -, a7, a8, a9, a10⟩, r⟩, c⟩ := h
  have r' : TBR s u := r
  exact ⟨⟨⟨a1, a2, a3, a4, a5, trivial, a7, a8, a9, a10⟩, r'⟩, c⟩
set_option maxHeartbeats 4000000 in
theorem ro_head {N : Nat} (hN : 1000 ≤ N) {E1 : CS → Option (Unit × CS)} {E2 : CS → Option (Int32 × CS)} (hm1 : ∀ σ, Kf (CS.i σ 32) (E1 σ)) (hm2 : ∀ σ, Kf (CS.i σ 32) (E2 σ)) (hE : SXR N 18 E1) {d : Int32} {B : CS} {b : RS} {t0 T n : Nat} {L : List CEL} {x : Int} {S P : CS} {s q V U : RS} {c : CEL} {l : Int64} {W : Option Nat × CS} {R : Unit × CS} (hC : COR d B b t0 (c :: L) x S s) (q1 : TOP S s c) (q2 : LOW S s c) (q3 : T = ceT c + wid (S.o c.2.1 0)) (hT : t0 ≤ T) (hm : NMC c S) (hx : S.o c.2.1 0 = 303 → x = -3) (hB : BOT b S (c :: L)) (w : WAY (d + 1) T 7 11 1 (-4) 2 S s P q) (k10 : q.i 10 = 58) (k64 : q.a 64 T = 12) (k71 : q.a 71 T = S.i 50) (k74 : q.b 74 T = l) (fr : ∀ k : Nat, (k : Int) < (q.i 38).toInt → ¬ q.b 39 k = l) (e : f_X7_rowHead N E1 E2 P l = some W) (e2 : f_X7_beginFor_85 N E1 E2 W.2 (S.i 50) W.1 = some R) (hV : f_X12_forHead_76 N q (q.i 63) 1 = some V) (g : f_X12_parse_10 N n V = some U) : (¬ R.2.i 32 = 0 ∧ ¬ U.i 15 = 0) ∨ DMD d B R.2 U ∨ ∃ (m : Nat) (u : RS), f_X12_parse_10 N m u = some U ∧ NEW d B b t0 c L R.2 u := by
  have hv := hC.1
  have h8 := hC.2.2.2.2.2.2.2.2.1.2.1
  have t21 := hC.2.2.2.2.2.2.2.2.1.1
  have q54 := hC.2.2.2.2.2.2.2.2.1.2.2
  have ph0 := hv.2.2.2.2.2.2.2.1
  -- the class, taken apart
  unfold f_X7_rowHead at e
  obtain ⟨y1, ey1, e⟩ := hf_bind e
  obtain ⟨y5, ey5, e⟩ := hf_bind e
  obtain ⟨y9, ey9, e⟩ := hf_bind e
  obtain ⟨y13, ey13, e⟩ := hf_bind e
  obtain ⟨y17, ey17, e⟩ := hf_bind e
  obtain ⟨y21, ey21, e⟩ := hf_bind e
  obtain ⟨y25, ey25, e⟩ := hf_bind e
  obtain ⟨y29, ey29, e⟩ := hf_bind e
  obtain ⟨y33, ey33, e⟩ := hf_bind e
  obtain ⟨y37, ey37, e⟩ := hf_bind e
  obtain ⟨y41, ey41, e⟩ := hf_bind e
  obtain ⟨y45, ey45, e⟩ := hf_bind e
  obtain ⟨y49, ey49, e⟩ := hf_bind e
  obtain ⟨pp, a, epp, ra, hy49⟩ := pl_in ey49
  rw [hy49] at e
  have e' : some ((some a), CS.setO (CS.setO pp.2 a 10 y1.1) a 9 y5.1) = some W := e
  cases e'
  have e2' : (if oK (CS.setO (CS.setO pp.2 a 10 y1.1) a 9 y5.1) a 0 then some ((), CS.setO (CS.setO (CS.setO pp.2 a 10 y1.1) a 9 y5.1) a 3 (S.i 50)) else none) = some R := e2
  obtain ⟨-, e2'⟩ := hf_ite e2'
  cases e2'
  have f17 : ¬ y17.2.i 32 = 0 → ¬ pp.2.i 32 = 0 := fun z => by
    have z1 : ¬ y21.2.i 32 = 0 := by rw [kF_X0_aim N y17.2 y1.1 y21 ey21 z]; exact z
    have z2 : ¬ y25.2.i 32 = 0 := by rw [fst_add ey25]; exact z1
    have z3 : ¬ y29.2.i 32 = 0 := by rw [fst_add ey29]; exact z2
    have z4 : ¬ y33.2.i 32 = 0 := by rw [fst_add ey33]; exact z3
    have z5 : ¬ y37.2.i 32 = 0 := by rw [fst_add ey37]; exact z4
    have z6 : ¬ y41.2.i 32 = 0 := by rw [kF_X7_tell N y37.2 l y41 ey41 z5]; exact z5
    have z7 : ¬ y45.2.i 32 = 0 := by rw [fst_add ey45]; exact z6
    rw [kF_X6_push N y45.2 304 _ _ pp epp z7]
    exact z7
  have f13 : ¬ y13.2.i 32 = 0 → ¬ pp.2.i 32 = 0 := fun z => f17 (by rw [kF_X1_close N y13.2 41 y17 ey17 z]; exact z)
  show (¬ pp.2.i 32 = 0 ∧ ¬ U.i 15 = 0) ∨ DMD d B (CS.setO (CS.setO (CS.setO pp.2 a 10 y1.1) a 9 y5.1) a 3 (S.i 50)) U ∨ ∃ (m : Nat) (u : RS), f_X12_parse_10 N m u = some U ∧ NEW d B b t0 c L (CS.setO (CS.setO (CS.setO pp.2 a 10 y1.1) a 9 y5.1) a 3 (S.i 50)) u
  -- the reference, to the values' end
  have k43 := (tk_is w.1 (a := 58) (b := 58) (Or.inl ⟨by decide, by decide⟩) (by decide)).mpr k10
  have n11 := w.2.2.2.2.2.2.1.1
  have n21 := w.2.2.2.2.2.2.2.1
  have w1 := w.nt (by omega) ey1
  have n21' := w1.2.2.2.2.2.2.2.1
  have w2 := w1.nt (by omega) ey5
  unfold f_X12_forHead_76 f_X12_forHead_142 at hV
  obtain ⟨nx, hnx, hV⟩ := hf_bind hV
  rw [if_neg n10] at hV
  obtain ⟨w3, f3⟩ := w2.nx hN (by rw [(nt_i ey5).2.1, (nt_i ey1).2.1, k43]; decide) ey9 hnx
  obtain ⟨ft3, -⟩ := FRB.ft (T := T) f3
  have hV' : (if (nx.i 10) = 434 then (f_X12_next N nx).bind fun p45 => (f_X12_emit N p45 20 1).bind fun p47 => some (RS.setA p47.2 65 T 12) else (f_X12_then N (RS.setA nx 68 T 0) 10 16).bind fun p43 => some p43) = some V := by
    rw [tp_nat w.2.1] at hV
    by_cases c4 : nx.i 10 = 434
    · rw [if_pos c4] at hV ⊢
      obtain ⟨p45, h45, hV⟩ := hf_bind hV
      obtain ⟨p47, h47, hV⟩ := hf_bind hV
      obtain ⟨-, hV⟩ := hf_ite hV
      rw [h45, ob_some, h47, ob_some]
      exact hV
    · rw [if_neg c4] at hV ⊢
      obtain ⟨-, hV⟩ := hf_ite hV
      exact hV
  rcases ro_val hN hm1 hm2 hE ph0 (w3.nu (by omega) (by omega) (by omega) (by omega) (by omega)) (ft3.1.trans k64) (ft3.2.2.2.2.2.2.1.trans k71) (((f3 (T + 1) T (by omega)).2.2.2.2.2.2.2.2.2.2).trans k74) ey13 hV' g with ⟨z1, z2⟩ | ⟨m3, u, g3, w4, u64, u65, u71, u74⟩
  · exact Or.inl ⟨f13 z1, z2⟩
  -- state 12
  obtain ⟨m4, V4, hV4, g4⟩ := rl_12 g3 w4.2.1 w4.1.1.2.1 u64
  unfold f_X12_fors at hV4
  obtain ⟨-, hV4⟩ := hf_ite hV4
  rw [tp_nat w4.2.1, if_neg (show ¬ u.a 65 T = 0 by rw [u65]; decide), if_neg (show ¬ u.a 65 T = 1 by rw [u65]; decide), if_neg (show ¬ u.a 65 T = 2 by rw [u65]; decide), if_neg (show ¬ u.a 65 T = 3 by rw [u65]; decide), if_neg (show ¬ u.a 65 T = 4 by rw [u65]; decide), if_neg (show ¬ u.a 65 T = 5 by rw [u65]; decide), if_neg (show ¬ u.a 65 T = 6 by rw [u65]; decide), if_neg (show ¬ u.a 65 T = 7 by rw [u65]; decide), if_neg (show ¬ u.a 65 T = 8 by rw [u65]; decide), ob_id] at hV4
  unfold f_X12_rows at hV4
  obtain ⟨-, hV4⟩ := hf_ite hV4
  rw [tp_nat w4.2.1, if_neg (show ¬ u.a 65 T = 10 by rw [u65]; decide), if_pos u65, u74] at hV4
  obtain ⟨z, hz, hV4⟩ := hf_bind hV4
  obtain ⟨sh, hsh, hV4⟩ := hf_bind hV4
  obtain ⟨em, hem, hV4⟩ := hf_bind hV4
  obtain ⟨-, hV4⟩ := hf_ite hV4
  obtain ⟨G, hG, hV4⟩ := hf_bind hV4
  rw [ob_id] at hV4
  have fu : ∀ k : Nat, (k : Int) < (u.i 38).toInt → ¬ u.b 39 k = l := fun k hk => by
    have z1 := w.2.2.2.1.1
    have z2 := w4.2.2.2.1.1
    rw [z2.1.2.2.2.1] at hk
    rw [(z2.2.1 k hk).1, ← (z1.2.1 k hk).1]
    exact fr k (by rw [z1.1.2.2.2.1]; exact hk)
  have hD : pj2 y37.2 = pj2 y17.2 := (kd_X0_add N y33.2 38 _ y37 ey37).trans ((kd_X0_add N y29.2 51 0 y33 ey33).trans ((kd_X0_add N y25.2 31 _ y29 ey29).trans ((kd_X0_add N y21.2 37 _ y25 ey25).trans (kd_X0_aim N y17.2 y1.1 y21 ey21))))
  rcases ro_shut hN w4 hv (by omega) (by omega) h8 fu ey17 hD ey41 hz hsh with ⟨o1, o2, o3⟩ | ⟨o1, w5, f5, sh20⟩
  · refine Or.inl ⟨f17 o2, u_flt g4 (krf_f_X12_body N _ 13 V4 hV4 ?_)⟩
    show ¬ G.2.i 15 = 0
    have z1 : ¬ em.2.i 15 = 0 := krf_f_X12_emit N _ 24 0 em hem o3
    exact krf_f_X12_loopGoal N _ G hG z1
  obtain ⟨ft5, -⟩ := FRB.ft (T := T) f5
  have w6 : WAZ d T 10 17 0 (-6) 4 S s y45.2 sh.2 := (w5.ad ey45).nu (by omega) (by omega) (by omega) (by omega) (by omega)
  have lo6 := w6.lo
  -- the reference's state before its goal
  obtain ⟨s5, hs5⟩ : ∃ y, y = RS.setI sh.2 52 (sh.2.i 52 + 1) := ⟨_, rfl⟩
  have ev5 : ENV d y45.2 s5 := by rw [hs5]; exact w6.1.s52
  have tp5 : tpI s5 = (T : Int) := by rw [hs5]; exact w6.2.1
  have ph5 : phI s5 = phI sh.2 := by rw [hs5]; rfl
  have i5 : ∀ k : Nat, k ≠ 52 → s5.i k = sh.2.i k := by
    rw [hs5]
    exact fun k h => if_neg h
  have a5 : s5.a = sh.2.a ∧ s5.b = sh.2.b := by rw [hs5]; exact ⟨rfl, rfl⟩
  have t5 : ∀ y : RS, TBK s5 y → TBK9 sh.2 y := by
    rw [hs5]
    exact fun y h => h.s52
  rw [← hs5] at hem
  clear hs5
  obtain ⟨n1, n2, n3, n4, n5, n6, n7, n8, n9, n10', n11'⟩ := y_emit ev5 tp5 (by omega) hem
  have qjm := (qj2_eq (em_env ev5 (by omega) hem).2.2.1).1
  obtain ⟨x59, x60, x61, x62, -⟩ := qj_p qjm
  have hG' : f_X12_loopGoal N (RS.setA (RS.setA em.2 66 T em.1) 23 (em.1).toNatClampNeg z.1) = some G := by
    have z1 : upd (em.2.a 66) T em.1 T = em.1 := if_pos rfl
    rw [z1] at hG
    exact hG
  obtain ⟨q', hq'⟩ : ∃ y, y = RS.setA (RS.setA em.2 66 T em.1) 23 (em.1).toNatClampNeg z.1 := ⟨_, rfl⟩
  have e23 : EQ23 (RS.setA em.2 66 T em.1) q' := by
    rw [hq']
    exact ⟨rfl, rfl, rfl, fun k hk => setA_nk hk⟩
  have evq : ENV d y45.2 q' := e23.env (setA_env (Or.inr (by omega)) n1)
  have tbq : TBK s5 q' := (n4.tr (setA_tbk (by omega))).tr e23.tbk
  have frq : ∀ r : Nat, r ≤ T → FRB r s5 q' := fun r hr => ((n3 r).tr (setA_frb (Or.inr ⟨by omega, by omega, hr⟩))).tr e23.frb
  have iq : q'.i = em.2.i := by rw [hq']; rfl
  have q66 : q'.a 66 T = em.1 := by
    rw [e23.2.2.2 66 (by decide)]
    exact setA_at
  have qa : ∀ k : Nat, k ≠ 23 → k ≠ 66 → q'.a k = em.2.a k := fun k h1 h2 => by
    rw [e23.2.2.2 k h1]
    exact setA_nk h2
  rw [← hq'] at hG'
  clear hq'
  have ftm := (FRB.ft (T := T) n3).1
  have q64 : q'.a 64 T = 12 := by
    rw [qa 64 (by decide) (by decide), ftm.1, a5.1, ft5.1]
    exact u64
  have q71 : q'.a 71 T = S.i 50 := by
    rw [qa 71 (by decide) (by decide), ftm.2.2.2.2.2.2.1, a5.1, ft5.2.2.2.2.2.2.1]
    exact u71
  have q20 : (q'.i 20).toInt = (sh.2.i 20).toInt + 1 := by
    rw [iq, n7, i5 20 (by decide)]
  have q11 : q'.i 11 = sh.2.i 11 := by rw [iq, n8, i5 11 (by decide)]
  have q17 : q'.i 17 = sh.2.i 17 := by rw [iq, n9, i5 17 (by decide)]
  have qph : phI q' = phI sh.2 - 1 := by
    have z1 : phI q' = phI em.2 := by
      unfold phI
      rw [iq]
    omega
  -- the class's row
  have evm : ENV d y45.2 q' := evq
  have sgP := w6.sg hv
  have wpay := w6.pay hv (by omega)
  obtain ⟨a', m, ra', psr, evR, sq⟩ := evm.row (v := 304) ⟨by decide, by decide, by decide, by decide⟩ wpay (by rw [if_neg (by decide), if_neg (by decide)]; exact sgP) (by rw [q11]; omega) epp
  have ea : a' = a := by
    rw [ra] at ra'
    cases ra'
    rfl
  rw [ea] at psr sq
  have f0x := psr.2.2.2.2.2.2.2.2.2.1
  have sqX := ((sq.so (k := 10) (w := y1.1) ⟨by decide, by decide, by decide, by decide⟩).so (k := 9) (w := y5.1) ⟨by decide, by decide, by decide, by decide⟩).so3 (w := S.i 50)
  have evX : ENV d (CS.setO (CS.setO (CS.setO pp.2 a 10 y1.1) a 9 y5.1) a 3 (S.i 50)) q' := ((evR.so (by decide)).so (by decide)).so (by decide)
  have o5X : (CS.setO (CS.setO (CS.setO pp.2 a 10 y1.1) a 9 y5.1) a 3 (S.i 50)).o a 5 = 0 := ((so_nk (by decide)).trans ((so_nk (by decide)).trans (so_nk (by decide)))).trans f0x.1
  have o7X : (CS.setO (CS.setO (CS.setO pp.2 a 10 y1.1) a 9 y5.1) a 3 (S.i 50)).o a 7 = 0 := ((so_nk (by decide)).trans ((so_nk (by decide)).trans (so_nk (by decide)))).trans f0x.2.2.1
  have x38 : (CS.setO (CS.setO (CS.setO pp.2 a 10 y1.1) a 9 y5.1) a 3 (S.i 50)).i 38 = y45.2.i 38 := psr.2.1 38 (by decide) (by decide)
  have x21' : (CS.setO (CS.setO (CS.setO pp.2 a 10 y1.1) a 9 y5.1) a 3 (S.i 50)).i 21 = y45.2.i 21 := psr.2.1 21 (by decide) (by decide)
  obtain ⟨X, hX⟩ : ∃ X, X = CS.setO (CS.setO (CS.setO pp.2 a 10 y1.1) a 9 y5.1) a 3 (S.i 50) := ⟨_, rfl⟩
  rw [← hX] at evX sqX o5X o7X x38 x21' ⊢
  clear hX
  obtain ⟨-, ⟨r53, r54, -, -⟩, ⟨r50, -, -⟩, -, ⟨g0, -, g3', -⟩, -⟩ := id sqX
  refine Or.inr (lp_tail hC q1 q2 q3 hT hm hx hB w6 (by omega) (Or.inr (Or.inr (Or.inr rfl))) sqX g3' x38 o5X (fun z => by rcases z with z | z <;> exact absurd z (by decide)) ?_ (t5 q' tbq) ?_ evX hG' (Or.inr rfl) hV4 g4 ⟨by rw [q11]; exact Int.le_refl _, ?_, by rw [q17]; exact Int.le_refl _, ?_⟩ (by rw [x21', q11]; omega) (by rw [r54, q11]; omega) ⟨?_, ?_, ?_, ?_⟩ (fun u g w hu h1 h2 h3 => ?_) (fun u c1 k h1 h2 hu h3 => ?_))
  · intro j hj
    have z1 := frq T (Nat.le_refl T) j hj
    rw [a5.1, a5.2] at z1
    exact z1
  · show (q'.i 63).toInt = (T : Int)
    rw [iq]
    exact n2
  · show phI s + 2 ≤ phI q'
    omega
  · rw [iq, n10', i5 19 (by decide)]
    have z9 := w6.2.2.2.2.2.2.1.2.2.2
    omega
  · rw [iq, x59, i5 59 (by decide)]
  · rw [qa 60 (by decide) (by decide), x60, a5.1]
  · rw [qa 61 (by decide) (by decide), x61, a5.1]
  · rw [qa 62 (by decide) (by decide), x62, a5.1]
  · exact RFR.m304 g0 ⟨⟨(hu 64 (by decide) (by decide) (by decide) (by decide)).trans q64, h1, h2, (hu 71 (by decide) (by decide) (by decide) (by decide)).trans (q71.trans g3'.symm), h3⟩, o7X⟩
  · have hk : k = (sh.2.i 20).toInt := by
      unfold PLF at h3
      rw [h1, g0, h2] at h3
      rcases h3 with ⟨-, z⟩ | ⟨z, -⟩ | ⟨z | z, -⟩
      · rw [z, hu 66 (by decide) (by decide) (by decide) (by decide), q66, n6, i5 20 (by decide)]
      · exact absurd z (by decide)
      · exact absurd z (by decide)
      · exact absurd z (by decide)
    omega
