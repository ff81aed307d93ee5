/-! both readers: one condition -/
/-- the frame's number on the stack of frames -/
theorem tq_of {s u : RS} {t : Nat} (h : qj u = qj s) (ht : tpI s = t) : tpI u = t := by
  have r1 : u.i 63 = s.i 63 := congrArg (fun v : QJT => v.1.2.2.2.2.2.2.2.2.2.2.2.2.2.2.2.2.1) h
  show (u.i 63).toInt = (t : Int)
  rw [r1]
  exact ht
def cmpC (c : Int32) : Prop := c = 60 ∨ c = 62 ∨ c = 128 ∨ c = 129 ∨ c = 130 ∨ c = 131
def CMO (c o : Int32) : Prop := (c = 60 ∧ o = 12) ∨ (c = 62 ∧ o = 14) ∨ (c = 128 ∧ o = 13) ∨ (c = 129 ∧ o = 15) ∨ (c = 130 ∧ o = 16) ∨ (c = 131 ∧ o = 17)
theorem cmo_tk {d : Int32} {S : CS} {s : RS} {o : Int32} (h : ENV d S s) (q : CMO (S.i 43) o) : COP o (s.i 10) := by
  rcases q with ⟨a, b⟩ | ⟨a, b⟩ | ⟨a, b⟩ | ⟨a, b⟩ | ⟨a, b⟩ | ⟨a, b⟩
  · exact Or.inl ⟨b, (tk_is h (a := 60) (b := 60) (Or.inl ⟨by decide, by decide⟩) (by decide)).mp a⟩
  · exact Or.inr (Or.inr (Or.inl ⟨b, (tk_is h (a := 62) (b := 62) (Or.inl ⟨by decide, by decide⟩) (by decide)).mp a⟩))
  · exact Or.inr (Or.inl ⟨b, (tk_is h (a := 128) (b := 300) (Or.inl ⟨by decide, by decide⟩) (by decide)).mp a⟩)
  · exact Or.inr (Or.inr (Or.inr (Or.inl ⟨b, (tk_is h (a := 129) (b := 301) (Or.inl ⟨by decide, by decide⟩) (by decide)).mp a⟩)))
  · exact Or.inr (Or.inr (Or.inr (Or.inr (Or.inl ⟨b, (tk_is h (a := 130) (b := 302) (Or.inl ⟨by decide, by decide⟩) (by decide)).mp a⟩))))
  · exact Or.inr (Or.inr (Or.inr (Or.inr (Or.inr ⟨b, (tk_is h (a := 131) (b := 303) (Or.inl ⟨by decide, by decide⟩) (by decide)).mp a⟩))))
theorem e_cmp1 {N : Nat} {S : CS} {c : Int32} (h : cmpC c) : ∃ o : Int32, 0 ≤ o ∧ f_X1_comparing N S c = some (o, S) ∧ CMO c o := by
  unfold f_X1_comparing
  rcases h with rfl | rfl | rfl | rfl | rfl | rfl
  · exact ⟨12, by decide, if_pos rfl, Or.inl ⟨rfl, rfl⟩⟩
  · exact ⟨14, by decide, (if_neg (by decide)).trans (if_pos rfl), Or.inr (Or.inl ⟨rfl, rfl⟩)⟩
  · exact ⟨13, by decide, (if_neg (by decide)).trans ((if_neg (by decide)).trans (if_pos rfl)), Or.inr (Or.inr (Or.inl ⟨rfl, rfl⟩))⟩
  · exact ⟨15, by decide, (if_neg (by decide)).trans ((if_neg (by decide)).trans ((if_neg (by decide)).trans (if_pos rfl))), Or.inr (Or.inr (Or.inr (Or.inl ⟨rfl, rfl⟩)))⟩
  · exact ⟨16, by decide, (if_neg (by decide)).trans ((if_neg (by decide)).trans ((if_neg (by decide)).trans ((if_neg (by decide)).trans (if_pos rfl)))), Or.inr (Or.inr (Or.inr (Or.inr (Or.inl ⟨rfl, rfl⟩))))⟩
  · exact ⟨17, by decide, (if_neg (by decide)).trans ((if_neg (by decide)).trans ((if_neg (by decide)).trans ((if_neg (by decide)).trans ((if_neg (by decide)).trans (if_pos rfl))))), Or.inr (Or.inr (Or.inr (Or.inr (Or.inr ⟨rfl, rfl⟩))))⟩
theorem e_cmp0 {N : Nat} {S : CS} {c : Int32} (h : ¬ cmpC c) : f_X1_comparing N S c = some (-1, S) := by
  unfold f_X1_comparing
  rw [if_neg (fun q => h (Or.inl q)), if_neg (fun q => h (Or.inr (Or.inl q))), if_neg (fun q => h (Or.inr (Or.inr (Or.inl q)))), if_neg (fun q => h (Or.inr (Or.inr (Or.inr (Or.inl q))))), if_neg (fun q => h (Or.inr (Or.inr (Or.inr (Or.inr (Or.inl q)))))), if_neg (fun q => h (Or.inr (Or.inr (Or.inr (Or.inr (Or.inr q))))))]
/-- the reference, behind the left side -/
theorem e_onec {N : Nat} {s V : RS} {t : Nat} (ht : tpI s = t) (h15 : s.i 15 = 0) (h3 : s.a 65 t = 3) (h : f_X12_one N s (s.i 63) = some V) : ((s.i 10 = 60 ∨ s.i 10 = 62 ∨ s.i 10 = 300 ∨ s.i 10 = 301 ∨ s.i 10 = 302 ∨ s.i 10 = 303) ∧ f_X12_one_281 N s (s.i 63) = some V) ∨ (¬ (s.i 10 = 60 ∨ s.i 10 = 62 ∨ s.i 10 = 300 ∨ s.i 10 = 301 ∨ s.i 10 = 302 ∨ s.i 10 = 303) ∧ ¬ V.i 15 = 0) := by
  unfold f_X12_one at h
  obtain ⟨-, h⟩ := hf_ite h
  rw [tp_nat ht, if_neg (by rw [h3]; decide), if_neg (by rw [h3]; decide), if_neg (by rw [h3]; decide), if_pos h3] at h
  have yes : ∀ v : Int32, ¬ v = 6 → s.i 10 = v → ((f_X12_can N s 1).bind fun p35 => (if p35.1 = 0 then some p35.2 else f_X12_one_281 N p35.2 (s.i 63))) = some V → f_X12_one_281 N s (s.i 63) = some V := fun v h6 hv hh => by
    rw [y_can1 h15 (by rw [hv]; exact h6), ob_some, if_neg n10] at hh
    exact hh
  by_cases c60 : s.i 10 = 60
  · rw [if_pos c60] at h
    exact Or.inl ⟨Or.inl c60, yes 60 (by decide) c60 h⟩
  rw [if_neg c60] at h
  by_cases c300 : s.i 10 = 300
  · rw [if_pos c300] at h
    exact Or.inl ⟨Or.inr (Or.inr (Or.inl c300)), yes 300 (by decide) c300 h⟩
  rw [if_neg c300] at h
  by_cases c62 : s.i 10 = 62
  · rw [if_pos c62] at h
    exact Or.inl ⟨Or.inr (Or.inl c62), yes 62 (by decide) c62 h⟩
  rw [if_neg c62] at h
  by_cases c301 : s.i 10 = 301
  · rw [if_pos c301] at h
    exact Or.inl ⟨Or.inr (Or.inr (Or.inr (Or.inl c301))), yes 301 (by decide) c301 h⟩
  rw [if_neg c301] at h
  by_cases c302 : s.i 10 = 302
  · rw [if_pos c302] at h
    exact Or.inl ⟨Or.inr (Or.inr (Or.inr (Or.inr (Or.inl c302)))), yes 302 (by decide) c302 h⟩
  rw [if_neg c302] at h
  by_cases c303 : s.i 10 = 303
  · rw [if_pos c303] at h
    exact Or.inl ⟨Or.inr (Or.inr (Or.inr (Or.inr (Or.inr c303)))), yes 303 (by decide) c303 h⟩
  rw [if_neg c303] at h
  obtain ⟨q, hq, h⟩ := hf_bind h
  obtain ⟨q1, q2⟩ := y_can0 hq
  rw [if_pos q1] at h
  cases h
  refine Or.inr ⟨fun z => ?_, q2⟩
  rcases z with z | z | z | z | z | z
  · exact c60 z
  · exact c62 z
  · exact c300 z
  · exact c301 z
  · exact c302 z
  · exact c303 z
set_option maxHeartbeats 4000000 in
/-- two sides and a sign between them -/
theorem sx_comparison {N : Nat} (hN : 1000 ≤ N) {E1 : CS → Option (Unit × CS)} {E2 : CS → Option (Int32 × CS)} (hm1 : ∀ σ, Kf (CS.i σ 32) (E1 σ)) (hm2 : ∀ σ, Kf (CS.i σ 32) (E2 σ)) (hE : SXR N 18 E1) {d : Int32} {S : CS} {s U : RS} {n t : Nat} {R : Unit × CS} (hv : ENV d S s) (ht : tpI s = t) (hk : s.a 64 t = 22) (h3 : 3 ≤ phI s) (t99 : t + 1 < 1000) (e : f_X1_comparison N E1 E2 S = some R) (g : f_X12_parse_10 N n (TH s t 3 16) = some U) : (¬ R.2.i 32 = 0 ∧ ¬ U.i 15 = 0) ∨ ∃ (m : Nat) (u : RS), f_X12_parse_10 N m u = some U ∧ XO d t S s R.2 u ∧ CDE 2 U S s R.2 u := by
  have hX := sx_expression hN hm1 hm2 hE
  unfold f_X1_comparison at e
  obtain ⟨p1, e1, e⟩ := hf_bind e
  have perX : ∀ (T : CS) (W : Unit × CS), f_X1_expression N E1 E2 T = some W → ¬ T.i 32 = 0 → ¬ W.2.i 32 = 0 := fun T W hW z => by rw [kF_X1_expression N E1 E2 hm1 hm2 T W hW z]; exact z
  -- a fault stays
  have per : ¬ p1.2.i 32 = 0 → ¬ R.2.i 32 = 0 := fun z => by
    by_cases c : cmpC (p1.2.i 43)
    · obtain ⟨o, o0, ho, -⟩ := e_cmp1 (N := N) (S := p1.2) c
      rw [ho, ob_some, if_pos o0] at e
      obtain ⟨x, ex, e⟩ := hf_bind e
      obtain ⟨y, ey, e⟩ := hf_bind e
      obtain ⟨w, ew, e⟩ := hf_bind e
      cases e
      rw [fst_add ew]
      refine perX _ _ ey ?_
      rw [kF_X9_advance N p1.2 x ex z]
      exact z
    · rw [e_cmp0 c, ob_some, if_neg (show ¬ (0 : Int32) ≤ -1 by decide)] at e
      obtain ⟨x, ex, e⟩ := hf_bind e
      cases e
      exact y_misp ex
  rcases hX d S (TH s t 3 16) U n (t + 1) p1 hv.th (TH.tp ht (by omega)) TH.fk TH.fs (show 3 ≤ phI s from h3) e1 g with ⟨x1, x2⟩ | ⟨m2, u, g3, xo, xc⟩
  · exact Or.inl ⟨per x1, x2⟩
  obtain ⟨w1, w2, w3, w4, w5, w6, w7, w8, w9⟩ := xo
  have u64 : u.a 64 t = 22 := by
    rw [(w3 t (by omega)).1, TH.fk0 (Nat.le_refl t)]
    exact hk
  have u65 : u.a 65 t = 3 := by
    rw [(w3 t (by omega)).2.1]
    exact TH.st
  have tu : tpI u = t := by
    rw [w2]
    omega
  have w6' : (s.i 11).toInt + 1 ≤ (u.i 11).toInt := w6
  have w7' : phI s + 1 ≤ phI u := w7
  have w8' : (s.i 17).toInt + 1 ≤ (u.i 17).toInt := w8
  have w9' : u.i 19 = s.i 19 := w9
  obtain ⟨m3, V3, hV3, g4⟩ := rl_22 g3 tu w1.1.2.1 u64
  have is : cmpC (p1.2.i 43) ↔ (u.i 10 = 60 ∨ u.i 10 = 62 ∨ u.i 10 = 300 ∨ u.i 10 = 301 ∨ u.i 10 = 302 ∨ u.i 10 = 303) := by
    unfold cmpC
    rw [tk_is w1 (a := 60) (b := 60) (Or.inl ⟨by decide, by decide⟩) (by decide), tk_is w1 (a := 62) (b := 62) (Or.inl ⟨by decide, by decide⟩) (by decide), tk_is w1 (a := 128) (b := 300) (Or.inl ⟨by decide, by decide⟩) (by decide), tk_is w1 (a := 129) (b := 301) (Or.inl ⟨by decide, by decide⟩) (by decide), tk_is w1 (a := 130) (b := 302) (Or.inl ⟨by decide, by decide⟩) (by decide), tk_is w1 (a := 131) (b := 303) (Or.inl ⟨by decide, by decide⟩) (by decide)]
  rcases e_onec tu w1.1.2.1 u65 hV3 with ⟨c, hV4⟩ | ⟨c, f3⟩
  · have c' := is.mpr c
    obtain ⟨o, o0, ho, hco⟩ := e_cmp1 (N := N) (S := p1.2) c'
    rw [ho, ob_some, if_pos o0] at e
    obtain ⟨x, ex, e⟩ := hf_bind e
    obtain ⟨y, ey, e⟩ := hf_bind e
    obtain ⟨w, ew, e⟩ := hf_bind e
    cases e
    unfold f_X12_one_281 at hV4
    obtain ⟨-, hV4⟩ := hf_ite hV4
    obtain ⟨v, hv2, hV4⟩ := hf_bind hV4
    rw [ob_id] at hV4
    rw [tp_nat tu] at hv2
    obtain ⟨s3, hs3⟩ : ∃ z, z = RS.setA u 66 t (u.i 10) := ⟨_, rfl⟩
    rw [← hs3] at hv2
    have v3 : ENV d p1.2 s3 := by rw [hs3]; exact setA_env (Or.inr (by omega)) w1
    have k3 : TBK u s3 := by rw [hs3]; exact ⟨setA_tb0 (Or.inr (by omega)), Int.le_refl _, fun _ _ => rfl⟩
    have f3 : FRB t u s3 := by rw [hs3]; exact setA_frb (Or.inr ⟨by omega, by omega, Nat.le_refl _⟩)
    have j3 : s3.i 17 = u.i 17 ∧ s3.i 11 = u.i 11 ∧ s3.i 20 = u.i 20 ∧ s3.i 19 = u.i 19 ∧ s3.a 64 = u.a 64 := by
      rw [hs3]
      exact ⟨rfl, rfl, rfl, rfl, rfl⟩
    have t3 : tpI s3 = t := by rw [hs3]; exact tu
    have qe3 : qe s3 = qe u := by rw [hs3]; rfl
    have f366 : s3.a 66 t = u.i 10 := by
      rw [hs3]
      exact if_pos rfl
    clear hs3
    have nz : ¬ p1.2.i 43 = 0 := fun z => by
      rw [z] at c'
      exact absurd c' (by unfold cmpC; decide)
    obtain ⟨a1, a2, a3, a4, a5, a6, a7, a8, a9, a10⟩ := v3.adv hN nz ex hv2
    have tv := tq_of a2 t3
    obtain ⟨hV5, -⟩ := r_then tv hV4
    rw [hV5] at g4
    have v17 : (v.i 17).toInt = (u.i 17).toInt + 1 := by
      rw [a4, ← j3.1]
      exact t17_up (N := N) v3
    have pv : phI v = phI u + 3 := by
      unfold phI
      rw [a6, v17, j3.2.2.1]
      omega
    have a5' : (u.i 11).toInt + 1 ≤ (v.i 11).toInt := by rw [j3.2.1] at a5; exact a5
    rcases hX d x.2 (TH v t 4 16) U m3 (t + 1) y a1.th (TH.tp tv (by omega)) TH.fk TH.fs (show 3 ≤ phI v by omega) ey g4 with ⟨x1, x2⟩ | ⟨m4, u4, g5, xo, xc2⟩
    · refine Or.inl ⟨?_, x2⟩
      rw [fst_add ew]
      exact x1
    · obtain ⟨b1, b2, b3, b4, b5, b6, b7, b8, b9⟩ := xo
      have x64 : u4.a 64 t = 22 := by
        rw [(b3 t (by omega)).1, TH.fk0 (Nat.le_refl t), ((FRB.of (t := t + 1) a2) t (by omega)).1, j3.2.2.2.2]
        exact u64
      have x65 : u4.a 65 t = 4 := by
        rw [(b3 t (by omega)).2.1]
        exact TH.st
      have tu4 : tpI u4 = t := by
        rw [b2]
        omega
      have b6' : (v.i 11).toInt + 1 ≤ (u4.i 11).toInt := b6
      have b7' : phI v + 1 ≤ phI u4 := b7
      have b8' : (v.i 17).toInt + 1 ≤ (u4.i 17).toInt := b8
      have b9' : u4.i 19 = v.i 19 := b9
      obtain ⟨m5, V5, hV6, g6⟩ := rl_22 g5 tu4 b1.1.2.1 x64
      unfold f_X12_one at hV6
      obtain ⟨-, hV6⟩ := hf_ite hV6
      rw [tp_nat tu4, if_neg (by rw [x65]; decide), if_neg (by rw [x65]; decide), if_neg (by rw [x65]; decide), if_neg (by rw [x65]; decide)] at hV6
      obtain ⟨z, hz, hV6⟩ := hf_bind hV6
      cases hV6
      obtain ⟨q1, q2, q3, q4, -, -⟩ := em_env b1 (by omega) hz
      obtain ⟨kq, y10, y11, -, -, -, -, y17, y19, -⟩ := qj2_eq q3
      have kd := kd_X0_add N y.2 o 0 w ew
      obtain ⟨kp, -, -, -, e22, -, -, e43, -, -, -, e18⟩ := pj2_eq kd
      refine Or.inr ⟨m5, _, g6, ⟨pop_env (q1.kd kd), tp_sub (tq_of kq tu4) (by omega), (((((TH.frb.tr (w3.mo (by omega))).tr f3).tr (FRB.of a2)).tr TH.frb).tr (b3.mo (by omega))).tr ((FRB.of kq).tr pop_frb), (((((TH.tbk.tr w4).tr k3).tr (TBK.of a2 (by rw [a6]; exact Int.le_refl _) (fun j _ => by rw [a7]))).tr TH.tbk).tr b4).tr (q2.tr pop_tbk), ((w5.tr (CKX.of a3 a8 a9)).tr b5).tr (CKX.of kp e22 e18), ?_, ?_, ?_, ?_⟩, fun cr => ?_⟩
      · show (s.i 11).toInt + 1 ≤ (z.2.i 11).toInt
        rw [y11]
        omega
      · show phI s + 1 ≤ phI z.2
        omega
      · show (s.i 17).toInt + 1 ≤ (z.2.i 17).toInt
        rw [y17]
        omega
      · exact (y19.trans b9').trans ((a10.trans j3.2.2.2.1).trans w9')
      · obtain ⟨f1, f2, f3', f4⟩ := xc cr
        have crp : CRB p1.2 := cr.of f1 (by omega) (by omega)
        obtain ⟨i1, i2, i3, i4, i5, i6, i7⟩ := adv_cd hN v3 nz ex hv2
        have crx : CRB x.2 := crp.of i1 (by omega) (by omega)
        obtain ⟨j1, j2, j3', j4⟩ := xc2 crx
        have cry : CRB y.2 := crx.of j1 (by omega) (by omega)
        have y44 := b1.p44
        have y44' : (y.2.i 44).toInt = (u4.i 11).toInt := by rw [y44.1]
        obtain ⟨d1, d2, ⟨d3, -⟩, d4, d5, d6⟩ := cd_add ew cry.1.1 (by have := cry.1.2; omega)
        have p20 := b1.p20
        obtain ⟨m1, -, m3e, m4e, m5e, -⟩ := cd_emit hz p20.1 (by omega)
        have e20 : (TH v t 4 16).i 20 = u.i 20 := (i6.trans j3.2.2.1 : v.i 20 = u.i 20)
        have sU : CD2 (s.i 20).toInt s u := (CD2.qe rfl).tr f3'
        have uT : ∀ c : Int, CD2 c u (TH v t 4 16) := fun c => ((CD2.qe qe3).tr (i3 c)).tr (CD2.qe rfl)
        have uu4 : CD2 (u.i 20).toInt u u4 := (uT _).tr (j3'.wk (by rw [e20]; exact Int.le_refl _))
        have u4z : CD2 (u4.i 20).toInt u4 (RS.setI z.2 63 (z.2.i 63 - 1)) := m1.tr (CD2.qe rfl)
        have uz := uu4.tr (u4z.wk uu4.1.1)
        have cpw : CD1 0 (-2) p1.2 w.2 := ((i1.tr j1).tr d1).wk (by omega) (by omega)
        have tpw : CT7 0 (p1.2.i 21).toInt p1.2 w.2 := ((i2 _ _).tr (j2.wk (Int.le_refl _) (by rw [i5]; exact Int.le_refl _))).tr (CT7.eq d4)
        have kU : TBK s u := TH.tbk.tr w4
        have kT : TBK s (TH v t 4 16) := ((kU.tr k3).tr (TBK.of a2 (by rw [a6]; exact Int.le_refl _) (fun j _ => by rw [a7]))).tr TH.tbk
        refine ⟨(f1.tr cpw).wk (by omega) (by omega), f2.tr (tpw.wk (Int.le_refl _) f1.2.2.1), sU.tr (uz.wk sU.1.1), ?_⟩
        obtain ⟨Ψ1, sat1, f4⟩ := f4
        obtain ⟨Ψ2, sat2, j4⟩ := j4
        refine ⟨_, (sat1.wd (MNO.of (CD1.rf S) (CD2.qe rfl : CD2 0 s (TH s t 3 16))) (MNO.of i1 (uT 0))).an (sat2.wd (MNO.of (CD1.rf x.2) (CD2.rf 0 (TH v t 4 16))) (MNO.of d1 u4z)) (MNO.of (f1.tr i1) (sU.tr ((uT (u.i 20).toInt).wk sU.1.1))) (MNO.of (j1.tr d1) (j3'.tr (u4z.wk j3'.1.1))), ?_⟩
        intro FC SF nm X c h w0 W g0 ps fc fr ng hc hh ty hW hg zz
        have pSi : ((pcC S : Nat) : Int) = (S.i 20).toInt := Int.toNat_of_nonneg cr.1.1
        have ppi : ((pcC p1.2 : Nat) : Int) = (p1.2.i 20).toInt := Int.toNat_of_nonneg crp.1.1
        have pyi : ((pcC y.2 : Nat) : Int) = (y.2.i 20).toInt := Int.toNat_of_nonneg cry.1.1
        have pui : ((pcR u4 : Nat) : Int) = (u4.i 20).toInt := Int.toNat_of_nonneg p20.1
        have px : pcC x.2 = pcC p1.2 := by unfold pcC; rw [i4]
        have l1 := f1.1.1
        have l2 := j1.1.1
        rw [i4] at l2
        have pw : pcC w.2 = pcC y.2 + 1 := by
          unfold pcC
          rw [d2]
          have := cry.1.1
          omega
        have pz : ∀ k : Int32, pcR (RS.setI z.2 63 k) = pcR u4 + 1 := fun k => by
          unfold pcR
          rw [show (RS.setI z.2 63 k).i 20 = z.2.i 20 from rfl, m3e]
          have := p20.1
          omega
        rw [pw, pz] at zz
        have f15 := fc.2.1 (pcC y.2) (by omega) (by show _ < (w.2.i 20).toInt; omega)
        have l3 := sU.1.1
        have l4 := uu4.1.1
        have u21 := fr.2.1 (pcR u4) (by omega) (by show _ < (z.2.i 20).toInt; omega)
        have fr1 : (z.2.i 20).toInt ≤ (U.i 20).toInt := fr.1.2.1
        have x66 : u4.a 66 t = u.i 10 := by
          rw [(b3 t (by omega)).2.2.1]
          show v.a 66 t = u.i 10
          rw [((FRB.of (t := t + 1) a2) t (by omega)).2.2.1, f366]
        have z0 := gs_rel (g := 0) ⟨by have := cry.1.2; omega, by omega, fr.1.2.2⟩ hc (by rw [f15.1, u21.2.1]; show COP (w.2.a 15 (pcC y.2)) (z.2.a 22 (pcR u4)); rw [d3, m5e, x66]; exact cmo_tk w1 hco) (by rw [u21.1]; exact m4e) zz
        have z1 := j4 FC SF nm X c (h + 1) (w0 + 1) W 0 ps.2 (fc.sub (f1.tr i1) d1 (CT7.eq d4)) (fr.sub (sU.tr ((uT (u.i 20).toInt).wk l3)) u4z (u4z.c3 (Int.le_refl _))) (ng.mv hv.2.1.1 (f1.tr i1) (sU.tr ((uT (u.i 20).toInt).wk l3)) kT.1.1.2.2.2.1 (fun j hj => (kT.1.2.1 j hj).2.1) (show (s.i 19).toInt ≤ (v.i 19).toInt by rw [(a10.trans j3.2.2.2.1).trans w9']; exact Int.le_refl _)) (hc.up (by omega)) (show ((2 * (h + 1) + 0 + msr c : Nat) : Int) ≤ (v.i 11).toInt by omega) ty (by omega) True.intro z0
        rw [px, show pcR (TH v t 4 16) = pcR u by unfold pcR; rw [e20]] at z1
        have z2 := f4 FC SF nm X c h (w0 + 1 + (pcC y.2 - pcC p1.2)) W g0 ps.1 (fc.sub (CD1.rf S) cpw (tpw.wk cr.2.1 (Int.le_refl _))) (fr.sub (CD2.qe rfl : CD2 0 s (TH s t 3 16)) uz (uz.c3 (Int.le_refl _))) (ng.mv hv.2.1.1 (CD1.rf S) (CD2.qe rfl : CD2 0 s (TH s t 3 16)) rfl (fun _ _ => rfl) (Int.le_refl _)) hc hh ty (by omega) True.intro z1
        rw [pw, show w0 + (pcC y.2 + 1 - pcC S) = w0 + 1 + (pcC y.2 - pcC p1.2) + (pcC p1.2 - pcC S) by omega]
        exact z2
  · have c' : ¬ cmpC (p1.2.i 43) := fun z => c (is.mp z)
    rw [e_cmp0 c', ob_some, if_neg (show ¬ (0 : Int32) ≤ -1 by decide)] at e
    obtain ⟨x, ex, e⟩ := hf_bind e
    cases e
    exact Or.inl ⟨y_misp ex, u_flt g4 f3⟩
