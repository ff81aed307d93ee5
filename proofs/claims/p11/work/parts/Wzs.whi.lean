/-! both readers: while -/
set_option maxHeartbeats 4000000 in
theorem st_while {N : Nat} (hN : 1000 ≤ N) {E1 : CS → Option (Unit × CS)} {E2 : CS → Option (Int32 × CS)} (hm1 : ∀ σ, Kf (CS.i σ 32) (E1 σ)) (hm2 : ∀ σ, Kf (CS.i σ 32) (E2 σ)) (hE2 : SXN N 22 E2) {d : Int32} {B : CS} {b : RS} {t0 T n : Nat} {L : List CEL} {x : Int} {S : CS} {s U : RS} {c : CEL} {p R : Unit × CS} {A : JBA} (hC : COR d B b t0 (c :: L) x S s) (hS : STO c T S s) (hT : t0 ≤ T) (hm : NMC c S) (hx : S.o c.2.1 0 = 303 → x = -3) (hB : BOT b S (c :: L)) (h43 : S.i 43 = 205) (e1 : f_X0_add N (CS.setI (CS.setI S 36 1) 24 ((S.i 24) + 1)) 51 0 = some p) (e : f_X7_beginWhile N E1 E2 p.2 = some R) (g : f_X12_parse_10 N n s = some U) : (¬ R.2.i 32 = 0 ∧ ¬ U.i 15 = 0) ∨ DMD d B R.2 U ∨ ∃ (m : Nat) (u : RS), f_X12_parse_10 N m u = some U ∧ NEW d B b t0 c L R.2 u (JTR A U B b (c :: L) S s) := by
  obtain ⟨q1, q2, q3, q4, q5, q6⟩ := id hS
  have hv := hC.1
  have k10 := (tk_is hv (a := 205) (b := 415) (Or.inr ⟨by decide, by decide⟩) (by decide)).mp h43
  obtain ⟨m1, s1, g1, w0, a64, a65, i43, i10, ph3, i21, i11, jst⟩ := st_gj hC hS k10 (Or.inr (Or.inl ⟨rfl, rfl⟩)) (by decide) e1 g
  have t21 := hC.2.2.2.2.2.2.2.2.1.1
  -- the class, taken apart
  unfold f_X7_beginWhile f_X7_conditionInside at e
  obtain ⟨x1, ex1, e⟩ := hf_bind e
  obtain ⟨x5, ex5, e⟩ := hf_bind e
  obtain ⟨x9, ex9, e⟩ := hf_bind e
  obtain ⟨x13, ex13, e⟩ := hf_bind e
  obtain ⟨x17, ex17, e⟩ := hf_bind e
  obtain ⟨y1, ey1, ex17⟩ := hf_bind ex17
  obtain ⟨y5, ey5, ex17⟩ := hf_bind ex17
  obtain ⟨y9, ey9, ex17⟩ := hf_bind ex17
  obtain ⟨hb01, ex17⟩ := hf_ite ex17
  cases ex17
  obtain ⟨x21, ex21, e⟩ := hf_bind e
  obtain ⟨x25, ex25, e⟩ := hf_bind e
  obtain ⟨x29, ex29, e⟩ := hf_bind e
  obtain ⟨pp, a, epp, ra, hx29⟩ := pl_in ex29
  rw [hx29] at e
  have e' : (if y5.1 = 0 ∨ y5.1 = 1 then if oK (CS.setO (CS.setO pp.2 a 10 x1.1) a 9 x5.1) a 0 then some ((), CS.setO (CS.setO (CS.setO pp.2 a 10 x1.1) a 9 x5.1) a 7 y5.1) else none else none) = some R := e
  obtain ⟨b01, e'⟩ := hf_ite e'
  obtain ⟨-, e'⟩ := hf_ite e'
  cases e'
  have f9 : ¬ y9.2.i 32 = 0 → ¬ pp.2.i 32 = 0 := fun z => by
    have z1 : ¬ x21.2.i 32 = 0 := by rw [fst_add ex21]; exact z
    have z2 : ¬ x25.2.i 32 = 0 := by rw [fst_add ex25]; exact z1
    rw [kF_X6_push N x25.2 205 _ _ pp epp z2]
    exact z2
  have f5 : ¬ y5.2.i 32 = 0 → ¬ pp.2.i 32 = 0 := fun z => f9 (by rw [kF_X1_close N y5.2 41 y9 ey9 z]; exact z)
  have f1 : ¬ y1.2.i 32 = 0 → ¬ pp.2.i 32 = 0 := fun z => f5 (by rw [kF_X1_condition N E1 E2 hm1 hm2 y1.2 y5 ey5 z]; exact z)
  show (¬ pp.2.i 32 = 0 ∧ ¬ U.i 15 = 0) ∨ DMD d B (CS.setO (CS.setO (CS.setO pp.2 a 10 x1.1) a 9 x5.1) a 7 y5.1) U ∨ ∃ (m : Nat) (u : RS), f_X12_parse_10 N m u = some U ∧ NEW d B b t0 c L (CS.setO (CS.setO (CS.setO pp.2 a 10 x1.1) a 9 x5.1) a 7 y5.1) u (JTR A U B b (c :: L) S s)
  -- the reference, to its condition
  have w1 := w0.nt (by rw [i21, i11]; omega) ex1
  have w1' := w1.nt (by have := w1.2.2.2.2.2.2.2.1; rw [i11] at this ⊢; omega) ex5
  obtain ⟨m2, V, hV, g2⟩ := rl_10 g1 w0.2.1 w0.1.1.2.1 a64
  unfold f_X12_whiles f_X12_whiles_77 at hV
  obtain ⟨hib, hV⟩ := hf_ite hV
  rw [tp_nat w0.2.1, if_pos a65] at hV
  obtain ⟨q, hq, hV⟩ := hf_bind hV
  obtain ⟨r, hr, hV⟩ := hf_bind hV
  have nz : ¬ x5.2.i 43 = 0 := by rw [(nt_i ex5).2.1, (nt_i ex1).2.1, i43, h43]; decide
  obtain ⟨w2, f2⟩ := w1'.nx hN nz ex9 hq
  have w2' := (w2.ai ex13).sa (j := 66) (v := q.i 20) ⟨by omega, by omega⟩
  have hth : ∃ v69 : Int32, ((r.2.i 10 = 432 ∧ v69 = r.2.i 17) ∨ (¬ r.2.i 10 = 432 ∧ v69 = 0)) ∧ f_X12_then N (RS.setA r.2 69 T v69) 1 20 = some V := by
    by_cases c4 : r.2.i 10 = 432
    · rw [if_pos c4, ob_id] at hV
      exact ⟨_, Or.inl ⟨c4, rfl⟩, hV⟩
    · rw [if_neg c4, ob_id] at hV
      exact ⟨_, Or.inr ⟨c4, rfl⟩, hV⟩
  obtain ⟨v69, h69, hth⟩ := hth
  rcases w2'.op hN (c := 40) (e := 40) (Or.inl ⟨by decide, by decide⟩) (by decide) (by decide) (by decide) ey1 hr with ⟨o1, o2, o3⟩ | ⟨o1, w3, f3⟩
  · exact Or.inl ⟨f1 o2, u_flt g2 (krf_f_X12_then N _ 1 20 V hth (show ¬ (RS.setA r.2 69 T v69).i 15 = 0 from o3))⟩
  have cop := op_cd hN w2'.1 (c := 40) (d := 40) (Or.inl ⟨by decide, by decide⟩) (by decide) (by decide) (by decide) ey1 hr o1
  have cad := adv_cd hN w1'.1 nz ex9 hq
  have cad2 := adw_cd hN w1'.1 (by rw [(nt_i ex5).2.1, (nt_i ex1).2.1, i43, h43]; decide) ex9 hq
  have r66 : r.2.a 66 T = q.i 20 := ((f3 (T + 1) T (by omega)).2.2.1).trans setA_at
  have w3' := w3.sa (j := 69) (v := v69) ⟨by omega, by omega⟩
  have p3 : 3 ≤ phI (RS.setA r.2 69 T v69) := by
    have := w3'.2.2.2.2.2.2.1.2.1
    omega
  rcases y_cond hN hm1 hm2 hE2 w3'.1 w3'.2.1 p3 ey5 hth g2 with ⟨z1, z2⟩ | ⟨m3, u, g3, xo, hn01, hn1, xc⟩
  · exact Or.inl ⟨f5 z1, z2⟩
  have w4 := w3'.exo xo
  obtain ⟨r0, r1, r66', -, -, r69, -⟩ := xo.2.2.1
  have u64 : u.a 64 T = 10 := by
    rw [r0]
    show r.2.a 64 T = 10
    rw [(f3 (T + 1) T (by omega)).1]
    show q.a 64 T = 10
    rw [(f2 (T + 1) T (by omega)).1]
    exact a64
  have u69 : u.a 69 T = v69 := by
    rw [r69]
    exact setA_at
  have r17 : 0 < (r.2.i 17).toInt ∧ (r.2.i 17).toInt < 2000 := by
    have y1 : 3 ≤ phI r.2 := p3
    have y2 := w3.1.2.2.2.2.2.2.1
    have y3 := w3.1.2.2.2.2.2.2.2.2.1
    have y4 := i11_hi w3.1
    unfold phI at y1
    omega
  -- behind the condition
  obtain ⟨m4, V4, hV4, g4⟩ := rl_10 g3 w4.2.1 w4.1.1.2.1 u64
  unfold f_X12_whiles at hV4
  obtain ⟨-, hV4⟩ := hf_ite hV4
  rw [tp_nat w4.2.1, if_neg (show ¬ u.a 65 T = 0 by rw [r1]; decide), if_pos r1, u69] at hV4
  obtain ⟨jt, hjt, hV4⟩ := hf_bind hV4
  have ejt := jt_eq hjt h69 r17 hn01 hn1
  rw [ejt] at hV4
  have hV5 : f_X12_whiles_111 N (RS.setA u 71 T y5.1) (u.i 63) = some V4 := by
    rcases hn01 with h | h
    · rw [if_pos h] at hV4
      rw [h]
      exact hV4
    · rw [if_neg (show ¬ (y5.1, u).1 = 0 by show ¬ y5.1 = 0; rw [h]; decide)] at hV4
      rw [h]
      exact hV4
  unfold f_X12_whiles_111 at hV5
  obtain ⟨sh, hsh, hV5⟩ := hf_bind hV5
  obtain ⟨em, hem, hV5⟩ := hf_bind hV5
  obtain ⟨-, hV5⟩ := hf_ite hV5
  rw [tp_nat w4.2.1] at hV5
  obtain ⟨em2, hem2, hV5⟩ := hf_bind hV5
  obtain ⟨G, hG, hV5⟩ := hf_bind hV5
  rw [ob_id] at hV5
  have w4' := w4.sa (j := 71) (v := y5.1) ⟨by omega, by omega⟩
  rcases w4'.cl hN hv (by omega) (c := 41) (e := 41) (Or.inl ⟨by decide, by decide⟩) (by decide) (by decide) (by decide) ey9 hsh with ⟨o1, o2, o3⟩ | ⟨o1, w5, f5'⟩
  · refine Or.inl ⟨f9 o2, u_flt g4 (krf_f_X12_body N _ 2 V4 hV5 ?_)⟩
    show ¬ G.2.i 15 = 0
    have z1 : ¬ em.2.i 15 = 0 := krf_f_X12_emit N sh.2 13 0 em hem o3
    have z2 : ¬ em2.2.i 15 = 0 := krf_f_X12_emit N _ 1 0 em2 hem2 z1
    exact krf_f_X12_loopGoal N em2.2 G hG z2
  have ccl := cl_cd hN w4'.1 (by have := w4'.sg hv; omega) (c := 41) (d := 41) (Or.inl ⟨by decide, by decide⟩) (by decide) (by decide) (by decide) ey9 hsh o1
  have p5 : 1 ≤ phI sh.2 := by
    have := w5.2.2.2.2.2.2.1.2.1
    omega
  obtain ⟨w6, f6, e20, n20, -⟩ := w5.em p5 hem
  have w6' := w6.sa (j := 67) (v := em.1) ⟨by omega, by omega⟩
  have p6 : 1 ≤ phI (RS.setA em.2 67 T em.1) := by
    have := w6'.2.2.2.2.2.2.1.2.1
    omega
  obtain ⟨w7, f7, e20', n20', -⟩ := w6'.em p6 hem2
  have w8 : WAY d T 4 7 0 0 3 S s x25.2 em2.2 := ((w7.ad ex21).ad ex25).nu (by omega) (by omega) (by omega) (by omega) (by omega)
  have v64 : em2.2.a 64 T = 10 := by
    rw [(f7 (T + 1) T (by omega)).1]
    show em.2.a 64 T = 10
    rw [(f6 (T + 1) T (by omega)).1, (f5' (T + 1) T (by omega)).1]
    exact u64
  have v67 : em2.2.a 67 T = em.1 := by
    rw [(f7 (T + 1) T (by omega)).2.2.2.1]
    exact setA_at
  have v66 : em2.2.a 66 T = q.i 20 := by
    rw [(f7 (T + 1) T (by omega)).2.2.1]
    show em.2.a 66 T = q.i 20
    rw [(f6 (T + 1) T (by omega)).2.2.1, (f5' (T + 1) T (by omega)).2.2.1]
    show u.a 66 T = q.i 20
    rw [r66']
    exact r66
  have v71 : em2.2.a 71 T = y5.1 := by
    rw [(f7 (T + 1) T (by omega)).2.2.2.2.2.2.2.1]
    show em.2.a 71 T = y5.1
    rw [(f6 (T + 1) T (by omega)).2.2.2.2.2.2.2.1, (f5' (T + 1) T (by omega)).2.2.2.2.2.2.2.1]
    exact setA_at
  have l20 : (s.i 20).toInt ≤ (sh.2.i 20).toInt := w5.2.2.2.1.2.1
  have h20 : (em2.2.i 20).toInt = (sh.2.i 20).toInt + 2 := by
    rw [n20']
    show (em.2.i 20).toInt + 1 = _
    rw [n20]
    omega
  -- the class's row
  have q54 := hC.2.2.2.2.2.2.2.2.1.2.2
  have n54 := w8.2.2.2.2.2.2.2.2.1
  have n21 := w8.2.2.2.2.2.2.2.1
  have sgP := w8.sg hv
  obtain ⟨a', m, ra', psr, evR, sq⟩ := w8.1.row (v := 205) ⟨by decide, by decide, by decide, by decide⟩ (w8.pay hv (by omega)) (by rw [if_neg (by decide), if_neg (by decide)]; exact sgP) (by omega) epp
  have ea : a' = a := by
    rw [ra] at ra'
    cases ra'
    rfl
  rw [ea] at psr sq
  have f0x := psr.2.2.2.2.2.2.2.2.2.1
  have sqX := ((sq.so (k := 10) (w := x1.1) ⟨by decide, by decide, by decide, by decide⟩).so (k := 9) (w := x5.1) ⟨by decide, by decide, by decide, by decide⟩).so (k := 7) (w := y5.1) ⟨by decide, by decide, by decide, by decide⟩
  have evX : ENV d (CS.setO (CS.setO (CS.setO pp.2 a 10 x1.1) a 9 x5.1) a 7 y5.1) em2.2 := ((evR.so (by decide)).so (by decide)).so (by decide)
  have o5X : (CS.setO (CS.setO (CS.setO pp.2 a 10 x1.1) a 9 x5.1) a 7 y5.1).o a 5 = 0 := ((so_nk (by decide)).trans ((so_nk (by decide)).trans (so_nk (by decide)))).trans f0x.1
  have o7X : (CS.setO (CS.setO (CS.setO pp.2 a 10 x1.1) a 9 x5.1) a 7 y5.1).o a 7 = y5.1 := so_at
  have x38 : (CS.setO (CS.setO (CS.setO pp.2 a 10 x1.1) a 9 x5.1) a 7 y5.1).i 38 = x25.2.i 38 := psr.2.1 38 (by decide) (by decide)
  have x21' : (CS.setO (CS.setO (CS.setO pp.2 a 10 x1.1) a 9 x5.1) a 7 y5.1).i 21 = x25.2.i 21 := psr.2.1 21 (by decide) (by decide)
  obtain ⟨X, hX⟩ : ∃ X, X = CS.setO (CS.setO (CS.setO pp.2 a 10 x1.1) a 9 x5.1) a 7 y5.1 := ⟨_, rfl⟩
  have peX : pe X = pe pp.2 := by rw [hX]; rfl
  have aX : X.a = pp.2.a := by rw [hX]; rfl
  have iX : X.i = pp.2.i := by rw [hX]; rfl
  have oX10 : X.o a 10 = x1.1 := by rw [hX]; exact (so_nk (by decide)).trans ((so_nk (by decide)).trans so_at)
  have oX9 : X.o a 9 = x5.1 := by rw [hX]; exact (so_nk (by decide)).trans so_at
  have oX2 : X.o a 2 = X.i 38 := by rw [iX, psr.2.1 38 (by decide) (by decide), ← psh_o2 epp ra, hX]; exact (so_nk (by decide)).trans ((so_nk (by decide)).trans (so_nk (by decide)))
  rw [← hX] at evX sqX o5X o7X x38 x21' ⊢
  clear hX
  obtain ⟨zX, ⟨r53, r54, -, -⟩, ⟨r50, -, -⟩, -, ⟨g0, -, g3', -⟩, -⟩ := id sqX
  have i50 := w8.2.2.2.2.2.1.2.1
  refine Or.inr (lp_tail hC q1 q2 q3 hT hm hx hB (w8.z (by omega)) (by omega) (Or.inl rfl) sqX (g3'.trans i50) x38 o5X (fun _ => r50.trans g3'.symm) (FRB.rf T _) (TBK.rf _).t9 w8.2.1 evX hG (Or.inl rfl) hV5 g4 ⟨Int.le_refl _, ?_, Int.le_refl _, by have := w8.2.2.2.2.2.2.1.2.2.2; omega⟩ (by rw [x21']; omega) (by rw [r54]; omega) ⟨rfl, rfl, rfl, rfl⟩ (fun u g w hu h1 h2 h3 => ?_) (fun u c1 k h1 h2 hu h3 => ?_) (fun u' c1 v2 v3 qu un uj uf R36 lpf pls _ jw => ?_))
  · have z := w8.2.2.2.2.2.2.1.2.1
    show phI s + 1 ≤ phI em2.2
    omega
  · exact RFR.m205 g0 ⟨(hu 64 (by decide) (by decide) (by decide) (by decide)).trans v64, h1, h2, (hu 71 (by decide) (by decide) (by decide) (by decide)).trans (v71.trans o7X.symm), h3⟩
  · have hk : k = (sh.2.i 20).toInt := by
      unfold PLF at h3
      rw [h1, g0, h2] at h3
      rcases h3 with ⟨z | z, -⟩ | ⟨z, -⟩ | ⟨-, z⟩
      · exact absurd z (by decide)
      · exact absurd z (by decide)
      · exact absurd z (by decide)
      · rw [z, hu 67 (by decide) (by decide) (by decide) (by decide), v67, e20]
    omega
  · have hin := hC.inl q1 q3
    have ckall : CKZ S X := w8.2.2.2.2.1.tr w8.2.2.2.2.2.1.2.2.1 zX
    have veq : vws X u' (c :: L) = vws S s (c :: L) := vws.eqf (T := T) (uf.2) (c :: L) hC.o3 (fun y hy => (hin.o ckall y hy).1) (fun k t h1 h2 h3 => (uf.1 k t h1 h2 h3).trans (w8.2.2.1.fld k t h1 h2 h3)) (fun y hy => by
      have z1 := wid1 (S.o y.2.1 0)
      have z2 := (hin y hy).2.2.1
      omega)
    show JRW A U B b (vw X u' c1 :: vws X u' (c :: L)) X u'
    rw [veq]
    rw [veq] at pls
    obtain ⟨z1, z2, z3, z4, z5, z6, -⟩ := cad
    obtain ⟨o1', o2', o3', o4', o5', o6'⟩ := cop
    obtain ⟨l1, l2, l3, l4, l5, l6⟩ := ccl
    have nt1 : x1.2.i 20 = p.2.i 20 := by
      unfold f_X0_newTarget at ex1
      cases ex1
      rfl
    have nt2 : x5.2.i 20 = x1.2.i 20 := by
      unfold f_X0_newTarget at ex5
      cases ex5
      rfl
    have pa1 := psr.1.1
    have l19 := w3'.l19
    have l11 := w3'.l11
    have m19 := w8.l19
    have m11 := w8.l11
    have a21 : x21.2.i 50 = y9.2.i 50 := by
      unfold f_X0_add at ex21
      cases ex21
      rfl
    have a25 : x25.2.i 50 = em2.2.i 38 := w8.1.2.1.1
    have s38 : em.2.i 38 = sh.2.i 38 := (w5.nv.dif w6.nv).1
    obtain ⟨gf, xg, hg⟩ : ∃ gf : Nat, CDE gf U y1.2 (RS.setA r.2 69 T v69) y5.2 u ∧ ((gf = 2 ∧ ¬ y5.1 = 1) ∨ (gf = 4 ∧ y5.1 = 1)) := by
      rcases hn01 with z | z
      · exact ⟨2, xc.1, Or.inl ⟨rfl, by rw [z]; decide⟩⟩
      · exact ⟨4, xc.2 z, Or.inr ⟨rfl, z⟩⟩
    exact JRW.whi (C1 := y1.2) (C2 := y5.2) (C3 := y9.2) (z1 := RS.setA r.2 69 T v69) (z2 := u) (z3 := sh.2) (z5 := RS.setA em.2 67 T em.1) (jst.go jw (Or.inl rfl) hv.2.1.1) w0.1 ex1 ex5 cad2 z2 (z4.trans (nt2.trans nt1)) z3 z6 (w0.nv.dif w2.nv) w2.1 ex13 o1' o2' o4' (fun k => (CD2.qe rfl).tr ((o3' k).tr (CD2.qe rfl))) o6' (w2.nv.dif w3'.nv) xg (show (gf = 2 ∧ X.o c1.2.1 7 = 0) ∨ (gf = 4 ∧ ¬ X.o c1.2.1 7 = 0) by rw [v2, o7X]; exact hg.imp (fun z => ⟨z.1, b01.resolve_right z.2⟩) (fun z => ⟨z.1, by rw [z.2]; decide⟩)) w3'.1 (w3'.nv.dif w4.nv) w4.1 l1 l2 l4 (fun k => (CD2.qe rfl).tr (l3 k)) l6 (w4.nv.dif w5.nv) w5.1 p5 ex21 hem (fun _ => CD2.qe rfl) rfl (w6.nv.dif w6'.nv) (a21.trans (w5.1.2.1.1.trans s38.symm)) w6'.1 p6 ex25 hem2 ((CD1.pe (b := 0) (peX.trans (ke_X6_push N x25.2 205 _ _ pp epp)) x21' (by rw [iX]; exact psr.2.1 50 (by decide) (by decide)) (by rw [aX, pa1]) (by rw [aX, pa1]) (by rw [iX, psr.2.1 44 (by decide) (by decide)]; omega)).wk (by omega) (by omega)) (fun _ _ => CT7.eq (by rw [aX, pa1])) (by rw [iX]; exact psr.2.1 20 (by decide) (by decide)) (fun _ => CD2.qe qu) ((qe_eq qu).1.1) a25 ⟨un.1, fun j _ => by rw [un.2.1]⟩ (show X.o c1.2.1 0 = 205 by rw [v2]; exact g0) (show X.o c1.2.1 9 = x5.1 by rw [v2]; exact oX9) (show X.o c1.2.1 10 = x1.1 by rw [v2]; exact oX10) (show (vw X u' c1).2.1 67 = em.1 by rw [vw_at (k := 67) ⟨by decide, by decide⟩, v3, uj 67 (by decide) (by decide) (by decide) (by decide)]; exact v67) (show (vw X u' c1).2.1 66 = r.2.i 20 by rw [vw_at (k := 66) ⟨by decide, by decide⟩, v3, uj 66 (by decide) (by decide) (by decide) (by decide), v66]; exact o6'.symm) R36 lpf (show X.o c1.2.1 2 = X.i 38 by rw [v2]; exact oX2) (show NT5 (X.o c1.2.1 9) ∧ NT5 (X.o c1.2.1 10) by rw [v2, oX9, oX10]; exact ⟨nt5 w1.1 ex5, nt5 w0.1 ex1⟩) ⟨by omega, by rw [un.2.2.1]; omega⟩ ⟨by omega, by rw [un.2.2.2]; omega⟩ pls
