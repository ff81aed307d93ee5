/-! both readers: while -/
set_option maxHeartbeats 4000000 in
theorem st_while {N : Nat} (hN : 1000 ≤ N) {E1 : CS → Option (Unit × CS)} {E2 : CS → Option (Int32 × CS)} (hm1 : ∀ σ, Kf (CS.i σ 32) (E1 σ)) (hm2 : ∀ σ, Kf (CS.i σ 32) (E2 σ)) (hE2 : SXN N 22 E2) {d : Int32} {B : CS} {b : RS} {t0 T n : Nat} {L : List CEL} {x : Int} {S : CS} {s U : RS} {c : CEL} {p R : Unit × CS} (hC : COR d B b t0 (c :: L) x S s) (hS : STO c T S s) (hT : t0 ≤ T) (hm : NMC c S) (hx : S.o c.2.1 0 = 303 → x = -3) (hB : BOT b S (c :: L)) (h43 : S.i 43 = 205) (e1 : f_X0_add N (CS.setI (CS.setI S 36 1) 24 ((S.i 24) + 1)) 51 0 = some p) (e : f_X7_beginWhile N E1 E2 p.2 = some R) (g : f_X12_parse_10 N n s = some U) : (¬ R.2.i 32 = 0 ∧ ¬ U.i 15 = 0) ∨ DMD d B R.2 U ∨ ∃ (m : Nat) (u : RS), f_X12_parse_10 N m u = some U ∧ NEW d B b t0 c L R.2 u := by
  obtain ⟨q1, q2, q3, q4, q5, q6⟩ := id hS
  have hv := hC.1
  have k10 := (tk_is hv (a := 205) (b := 415) (Or.inr ⟨by decide, by decide⟩) (by decide)).mp h43
  obtain ⟨m1, s1, g1, w0, a64, a65, i43, i10, ph3, i21, i11⟩ := st_go hC hS k10 (Or.inr (Or.inl ⟨rfl, rfl⟩)) (by decide) e1 g
  have t21 := hC.2.2.2.2.2.2.2.2.1.1
  -- the class, taken apart
  unfold f_X7_beginWhile f_X7_conditionInside at e
  obtain ⟨x1, ex1, e⟩ := hf_bind e
  obtain ⟨x5, ex5, e⟩ := hf_bind e
  obtain ⟨x9, ex9, e⟩ := hf_bind e
  obtain ⟨x13, ex13, e⟩ := hf_bind e
  obtain ⟨x17, ex17, e⟩ := hf_bind e
  obtain ⟨y1, ey1, ex17⟩ := hf_bind ex17
  obtain ⟨y5, ey5, ex17⟩ := hf_bind ex17
  obtain ⟨y9, ey9, ex17⟩ := hf_bind ex17
  obtain ⟨hb01, ex17⟩ := hf_ite ex17
  cases ex17
  obtain ⟨x21, ex21, e⟩ := hf_bind e
  obtain ⟨x25, ex25, e⟩ := hf_bind e
  obtain ⟨x29, ex29, e⟩ := hf_bind e
  obtain ⟨pp, a, epp, ra, hx29⟩ := pl_in ex29
  rw [hx29] at e
  have e' : (if y5.1 = 0 ∨ y5.1 = 1 then if oK (CS.setO (CS.setO pp.2 a 10 x1.1) a 9 x5.1) a 0 then some ((), CS.setO (CS.setO (CS.setO pp.2 a 10 x1.1) a 9 x5.1) a 7 y5.1) else none else none) = some R := e
  obtain ⟨-, e'⟩ := hf_ite e'
  obtain ⟨-, e'⟩ := hf_ite e'
  cases e'
  have f9 : ¬ y9.2.i 32 = 0 → ¬ pp.2.i 32 = 0 := fun z => by
    have z1 : ¬ x21.2.i 32 = 0 := by rw [fst_add ex21]; exact z
    have z2 : ¬ x25.2.i 32 = 0 := by rw [fst_add ex25]; exact z1
    rw [kF_X6_push N x25.2 205 _ _ pp epp z2]
    exact z2
  have f5 : ¬ y5.2.i 32 = 0 → ¬ pp.2.i 32 = 0 := fun z => f9 (by rw [kF_X1_close N y5.2 41 y9 ey9 z]; exact z)
  have f1 : ¬ y1.2.i 32 = 0 → ¬ pp.2.i 32 = 0 := fun z => f5 (by rw [kF_X1_condition N E1 E2 hm1 hm2 y1.2 y5 ey5 z]; exact z)
  show (¬ pp.2.i 32 = 0 ∧ ¬ U.i 15 = 0) ∨ DMD d B (CS.setO (CS.setO (CS.setO pp.2 a 10 x1.1) a 9 x5.1) a 7 y5.1) U ∨ ∃ (m : Nat) (u : RS), f_X12_parse_10 N m u = some U ∧ NEW d B b t0 c L (CS.setO (CS.setO (CS.setO pp.2 a 10 x1.1) a 9 x5.1) a 7 y5.1) u
  -- the reference, to its condition
  have w1 := w0.nt (by rw [i21, i11]; omega) ex1
  have w1' := w1.nt (by have := w1.2.2.2.2.2.2.2.1; rw [i11] at this ⊢; omega) ex5
  obtain ⟨m2, V, hV, g2⟩ := rl_10 g1 w0.2.1 w0.1.1.2.1 a64
  unfold f_X12_whiles f_X12_whiles_77 at hV
  obtain ⟨hib, hV⟩ := hf_ite hV
  rw [tp_nat w0.2.1, if_pos a65] at hV
  obtain ⟨q, hq, hV⟩ := hf_bind hV
  obtain ⟨r, hr, hV⟩ := hf_bind hV
  have nz : ¬ x5.2.i 43 = 0 := by rw [(nt_i ex5).2.1, (nt_i ex1).2.1, i43, h43]; decide
  obtain ⟨w2, f2⟩ := w1'.nx hN nz ex9 hq
  have w2' := (w2.ai ex13).sa (j := 66) (v := q.i 20) ⟨by omega, by omega⟩
  have hth : ∃ v69 : Int32, ((r.2.i 10 = 432 ∧ v69 = r.2.i 17) ∨ (¬ r.2.i 10 = 432 ∧ v69 = 0)) ∧ f_X12_then N (RS.setA r.2 69 T v69) 1 20 = some V := by
    by_cases c4 : r.2.i 10 = 432
    · rw [if_pos c4, ob_id] at hV
      exact ⟨_, Or.inl ⟨c4, rfl⟩, hV⟩
    · rw [if_neg c4, ob_id] at hV
      exact ⟨_, Or.inr ⟨c4, rfl⟩, hV⟩
  obtain ⟨v69, h69, hth⟩ := hth
  rcases w2'.op hN (c := 40) (e := 40) (Or.inl ⟨by decide, by decide⟩) (by decide) (by decide) (by decide) ey1 hr with ⟨o1, o2, o3⟩ | ⟨o1, w3, f3⟩
  · exact Or.inl ⟨f1 o2, u_flt g2 (krf_f_X12_then N _ 1 20 V hth (show ¬ (RS.setA r.2 69 T v69).i 15 = 0 from o3))⟩
  have w3' := w3.sa (j := 69) (v := v69) ⟨by omega, by omega⟩
  have p3 : 3 ≤ phI (RS.setA r.2 69 T v69) := by
    have := w3'.2.2.2.2.2.2.1.2.1
    omega
  rcases y_cond hN hm1 hm2 hE2 w3'.1 w3'.2.1 p3 ey5 hth g2 with ⟨z1, z2⟩ | ⟨m3, u, g3, xo, hn01, hn1⟩
  · exact Or.inl ⟨f5 z1, z2⟩
  have w4 := w3'.exo xo
  obtain ⟨r0, r1, -, -, -, r69, -⟩ := xo.2.2.1
  have u64 : u.a 64 T = 10 := by
    rw [r0]
    show r.2.a 64 T = 10
    rw [(f3 (T + 1) T (by omega)).1]
    show q.a 64 T = 10
    rw [(f2 (T + 1) T (by omega)).1]
    exact a64
  have u69 : u.a 69 T = v69 := by
    rw [r69]
    exact setA_at
  have r17 : 0 < (r.2.i 17).toInt ∧ (r.2.i 17).toInt < 2000 := by
    have y1 : 3 ≤ phI r.2 := p3
    have y2 := w3.1.2.2.2.2.2.2.1
    have y3 := w3.1.2.2.2.2.2.2.2.2.1
    have y4 := i11_hi w3.1
    unfold phI at y1
    omega
  -- behind the condition
  obtain ⟨m4, V4, hV4, g4⟩ := rl_10 g3 w4.2.1 w4.1.1.2.1 u64
  unfold f_X12_whiles at hV4
  obtain ⟨-, hV4⟩ := hf_ite hV4
  rw [tp_nat w4.2.1, if_neg (show ¬ u.a 65 T = 0 by rw [r1]; decide), if_pos r1, u69] at hV4
  obtain ⟨jt, hjt, hV4⟩ := hf_bind hV4
  have ejt := jt_eq hjt h69 r17 hn01 hn1
  rw [ejt] at hV4
  have hV5 : f_X12_whiles_111 N (RS.setA u 71 T y5.1) (u.i 63) = some V4 := by
    rcases hn01 with h | h
    · rw [if_pos h] at hV4
      rw [h]
      exact hV4
    · rw [if_neg (show ¬ (y5.1, u).1 = 0 by show ¬ y5.1 = 0; rw [h]; decide)] at hV4
      rw [h]
      exact hV4
  unfold f_X12_whiles_111 at hV5
  obtain ⟨sh, hsh, hV5⟩ := hf_bind hV5
  obtain ⟨em, hem, hV5⟩ := hf_bind hV5
  obtain ⟨-, hV5⟩ := hf_ite hV5
  rw [tp_nat w4.2.1] at hV5
  obtain ⟨em2, hem2, hV5⟩ := hf_bind hV5
  obtain ⟨G, hG, hV5⟩ := hf_bind hV5
  rw [ob_id] at hV5
  have w4' := w4.sa (j := 71) (v := y5.1) ⟨by omega, by omega⟩
  rcases w4'.cl hN hv (by omega) (c := 41) (e := 41) (Or.inl ⟨by decide, by decide⟩) (by decide) (by decide) (by decide) ey9 hsh with ⟨o1, o2, o3⟩ | ⟨o1, w5, f5'⟩
  · refine Or.inl ⟨f9 o2, u_flt g4 (krf_f_X12_body N _ 2 V4 hV5 ?_)⟩
    show ¬ G.2.i 15 = 0
    have z1 : ¬ em.2.i 15 = 0 := krf_f_X12_emit N sh.2 13 0 em hem o3
    have z2 : ¬ em2.2.i 15 = 0 := krf_f_X12_emit N _ 1 0 em2 hem2 z1
    exact krf_f_X12_loopGoal N em2.2 G hG z2
  have p5 : 1 ≤ phI sh.2 := by
    have := w5.2.2.2.2.2.2.1.2.1
    omega
  obtain ⟨w6, f6, e20, n20, -⟩ := w5.em p5 hem
  have w6' := w6.sa (j := 67) (v := em.1) ⟨by omega, by omega⟩
  have p6 : 1 ≤ phI (RS.setA em.2 67 T em.1) := by
    have := w6'.2.2.2.2.2.2.1.2.1
    omega
  obtain ⟨w7, f7, e20', n20', -⟩ := w6'.em p6 hem2
  have w8 : WAY d T 4 7 0 0 3 S s x25.2 em2.2 := ((w7.ad ex21).ad ex25).nu (by omega) (by omega) (by omega) (by omega) (by omega)
  have v64 : em2.2.a 64 T = 10 := by
    rw [(f7 (T + 1) T (by omega)).1]
    show em.2.a 64 T = 10
    rw [(f6 (T + 1) T (by omega)).1, (f5' (T + 1) T (by omega)).1]
    exact u64
  have v67 : em2.2.a 67 T = em.1 := by
    rw [(f7 (T + 1) T (by omega)).2.2.2.1]
    exact setA_at
  have v71 : em2.2.a 71 T = y5.1 := by
    rw [(f7 (T + 1) T (by omega)).2.2.2.2.2.2.2.1]
    show em.2.a 71 T = y5.1
    rw [(f6 (T + 1) T (by omega)).2.2.2.2.2.2.2.1, (f5' (T + 1) T (by omega)).2.2.2.2.2.2.2.1]
    exact setA_at
  have l20 : (s.i 20).toInt ≤ (sh.2.i 20).toInt := w5.2.2.2.1.2.1
  have h20 : (em2.2.i 20).toInt = (sh.2.i 20).toInt + 2 := by
    rw [n20']
    show (em.2.i 20).toInt + 1 = _
    rw [n20]
    omega
  -- the class's row
  have q54 := hC.2.2.2.2.2.2.2.2.1.2.2
  have n54 := w8.2.2.2.2.2.2.2.2.1
  have n21 := w8.2.2.2.2.2.2.2.1
  have sgP := w8.sg hv
  obtain ⟨a', m, ra', psr, evR, sq⟩ := w8.1.row (v := 205) ⟨by decide, by decide, by decide, by decide⟩ (w8.pay hv (by omega)) (by rw [if_neg (by decide), if_neg (by decide)]; exact sgP) (by omega) epp
  have ea : a' = a := by
    rw [ra] at ra'
    cases ra'
    rfl
  rw [ea] at psr sq
  have f0x := psr.2.2.2.2.2.2.2.2.2.1
  have sqX := ((sq.so (k := 10) (w := x1.1) ⟨by decide, by decide, by decide, by decide⟩).so (k := 9) (w := x5.1) ⟨by decide, by decide, by decide, by decide⟩).so (k := 7) (w := y5.1) ⟨by decide, by decide, by decide, by decide⟩
  have evX : ENV d (CS.setO (CS.setO (CS.setO pp.2 a 10 x1.1) a 9 x5.1) a 7 y5.1) em2.2 := ((evR.so (by decide)).so (by decide)).so (by decide)
  have o5X : (CS.setO (CS.setO (CS.setO pp.2 a 10 x1.1) a 9 x5.1) a 7 y5.1).o a 5 = 0 := ((so_nk (by decide)).trans ((so_nk (by decide)).trans (so_nk (by decide)))).trans f0x.1
  have o7X : (CS.setO (CS.setO (CS.setO pp.2 a 10 x1.1) a 9 x5.1) a 7 y5.1).o a 7 = y5.1 := so_at
  have x38 : (CS.setO (CS.setO (CS.setO pp.2 a 10 x1.1) a 9 x5.1) a 7 y5.1).i 38 = x25.2.i 38 := psr.2.1 38 (by decide) (by decide)
  have x21' : (CS.setO (CS.setO (CS.setO pp.2 a 10 x1.1) a 9 x5.1) a 7 y5.1).i 21 = x25.2.i 21 := psr.2.1 21 (by decide) (by decide)
  obtain ⟨X, hX⟩ : ∃ X, X = CS.setO (CS.setO (CS.setO pp.2 a 10 x1.1) a 9 x5.1) a 7 y5.1 := ⟨_, rfl⟩
  rw [← hX] at evX sqX o5X o7X x38 x21' ⊢
  clear hX
  obtain ⟨-, ⟨r53, r54, -, -⟩, ⟨r50, -, -⟩, -, ⟨g0, -, g3', -⟩, -⟩ := id sqX
  have i50 := w8.2.2.2.2.2.1.2.1
  refine Or.inr (lp_tail hC q1 q2 q3 hT hm hx hB (w8.z (by omega)) (by omega) (Or.inl rfl) sqX (g3'.trans i50) x38 o5X (fun _ => r50.trans g3'.symm) (FRB.rf T _) (TBK.rf _).t9 w8.2.1 evX hG (Or.inl rfl) hV5 g4 ⟨Int.le_refl _, ?_, Int.le_refl _, by have := w8.2.2.2.2.2.2.1.2.2.2; omega⟩ (by rw [x21']; omega) (by rw [r54]; omega) ⟨rfl, rfl, rfl, rfl⟩ (fun u g w hu h1 h2 h3 => ?_) (fun u c1 k h1 h2 hu h3 => ?_))
  · have z := w8.2.2.2.2.2.2.1.2.1
    show phI s + 1 ≤ phI em2.2
    omega
  · exact RFR.m205 g0 ⟨(hu 64 (by decide) (by decide) (by decide) (by decide)).trans v64, h1, h2, (hu 71 (by decide) (by decide) (by decide) (by decide)).trans (v71.trans o7X.symm), h3⟩
  · have hk : k = (sh.2.i 20).toInt := by
      unfold PLF at h3
      rw [h1, g0, h2] at h3
      rcases h3 with ⟨z | z, -⟩ | ⟨z, -⟩ | ⟨-, z⟩
      · exact absurd z (by decide)
      · exact absurd z (by decide)
      · exact absurd z (by decide)
      · rw [z, hu 67 (by decide) (by decide) (by decide) (by decide), v67, e20]
    omega
