/-! both readers: one condition -/
/-- the frame's number on the stack of frames -/
theorem tq_of {s u : RS} {t : Nat} (h : qj u = qj s) (ht : tpI s = t) : tpI u = t := by
  have r1 : u.i 63 = s.i 63 := congrArg (fun v : QJT => v.1.2.2.2.2.2.2.2.2.2.2.2.2.2.2.2.2.1) h
  show (u.i 63).toInt = (t : Int)
  rw [r1]
  exact ht
def cmpC (c : Int32) : Prop := c = 60 ∨ c = 62 ∨ c = 128 ∨ c = 129 ∨ c = 130 ∨ c = 131
theorem e_cmp1 {N : Nat} {S : CS} {c : Int32} (h : cmpC c) : ∃ o : Int32, 0 ≤ o ∧ f_X1_comparing N S c = some (o, S) := by
  unfold f_X1_comparing
  rcases h with rfl | rfl | rfl | rfl | rfl | rfl
  · exact ⟨12, by decide, if_pos rfl⟩
  · exact ⟨14, by decide, (if_neg (by decide)).trans (if_pos rfl)⟩
  · exact ⟨13, by decide, (if_neg (by decide)).trans ((if_neg (by decide)).trans (if_pos rfl))⟩
  · exact ⟨15, by decide, (if_neg (by decide)).trans ((if_neg (by decide)).trans ((if_neg (by decide)).trans (if_pos rfl)))⟩
  · exact ⟨16, by decide, (if_neg (by decide)).trans ((if_neg (by decide)).trans ((if_neg (by decide)).trans ((if_neg (by decide)).trans (if_pos rfl))))⟩
  · exact ⟨17, by decide, (if_neg (by decide)).trans ((if_neg (by decide)).trans ((if_neg (by decide)).trans ((if_neg (by decide)).trans ((if_neg (by decide)).trans (if_pos rfl)))))⟩
theorem e_cmp0 {N : Nat} {S : CS} {c : Int32} (h : ¬ cmpC c) : f_X1_comparing N S c = some (-1, S) := by
  unfold f_X1_comparing
  rw [if_neg (fun q => h (Or.inl q)), if_neg (fun q => h (Or.inr (Or.inl q))), if_neg (fun q => h (Or.inr (Or.inr (Or.inl q)))), if_neg (fun q => h (Or.inr (Or.inr (Or.inr (Or.inl q))))), if_neg (fun q => h (Or.inr (Or.inr (Or.inr (Or.inr (Or.inl q)))))), if_neg (fun q => h (Or.inr (Or.inr (Or.inr (Or.inr (Or.inr q))))))]
/-- the reference, behind the left side -/
theorem e_onec {N : Nat} {s V : RS} {t : Nat} (ht : tpI s = t) (h15 : s.i 15 = 0) (h3 : s.a 65 t = 3) (h : f_X12_one N s (s.i 63) = some V) : ((s.i 10 = 60 ∨ s.i 10 = 62 ∨ s.i 10 = 300 ∨ s.i 10 = 301 ∨ s.i 10 = 302 ∨ s.i 10 = 303) ∧ f_X12_one_281 N s (s.i 63) = some V) ∨ (¬ (s.i 10 = 60 ∨ s.i 10 = 62 ∨ s.i 10 = 300 ∨ s.i 10 = 301 ∨ s.i 10 = 302 ∨ s.i 10 = 303) ∧ ¬ V.i 15 = 0) := by
  unfold f_X12_one at h
  obtain ⟨-, h⟩ := hf_ite h
  rw [tp_nat ht, if_neg (by rw [h3]; decide), if_neg (by rw [h3]; decide), if_neg (by rw [h3]; decide), if_pos h3] at h
  have yes : ∀ v : Int32, ¬ v = 6 → s.i 10 = v → ((f_X12_can N s 1).bind fun p35 => (if p35.1 = 0 then some p35.2 else f_X12_one_281 N p35.2 (s.i 63))) = some V → f_X12_one_281 N s (s.i 63) = some V := fun v h6 hv hh => by
    rw [y_can1 h15 (by rw [hv]; exact h6), ob_some, if_neg n10] at hh
    exact hh
  by_cases c60 : s.i 10 = 60
  · rw [if_pos c60] at h
    exact Or.inl ⟨Or.inl c60, yes 60 (by decide) c60 h⟩
  rw [if_neg c60] at h
  by_cases c300 : s.i 10 = 300
  · rw [if_pos c300] at h
    exact Or.inl ⟨Or.inr (Or.inr (Or.inl c300)), yes 300 (by decide) c300 h⟩
  rw [if_neg c300] at h
  by_cases c62 : s.i 10 = 62
  · rw [if_pos c62] at h
    exact Or.inl ⟨Or.inr (Or.inl c62), yes 62 (by decide) c62 h⟩
  rw [if_neg c62] at h
  by_cases c301 : s.i 10 = 301
  · rw [if_pos c301] at h
    exact Or.inl ⟨Or.inr (Or.inr (Or.inr (Or.inl c301))), yes 301 (by decide) c301 h⟩
  rw [if_neg c301] at h
  by_cases c302 : s.i 10 = 302
  · rw [if_pos c302] at h
    exact Or.inl ⟨Or.inr (Or.inr (Or.inr (Or.inr (Or.inl c302)))), yes 302 (by decide) c302 h⟩
  rw [if_neg c302] at h
  by_cases c303 : s.i 10 = 303
  · rw [if_pos c303] at h
    exact Or.inl ⟨Or.inr (Or.inr (Or.inr (Or.inr (Or.inr c303)))), yes 303 (by decide) c303 h⟩
  rw [if_neg c303] at h
  obtain ⟨q, hq, h⟩ := hf_bind h
  obtain ⟨q1, q2⟩ := y_can0 hq
  rw [if_pos q1] at h
  cases h
  refine Or.inr ⟨fun z => ?_, q2⟩
  rcases z with z | z | z | z | z | z
  · exact c60 z
  · exact c62 z
  · exact c300 z
  · exact c301 z
  · exact c302 z
  · exact c303 z
set_option maxHeartbeats 4000000 in
/-- two sides and a sign between them -/
theorem sx_comparison {N : Nat} (hN : 1000 ≤ N) {E1 : CS → Option (Unit × CS)} {E2 : CS → Option (Int32 × CS)} (hm1 : ∀ σ, Kf (CS.i σ 32) (E1 σ)) (hm2 : ∀ σ, Kf (CS.i σ 32) (E2 σ)) (hE : SXR N 18 E1) {d : Int32} {S : CS} {s U : RS} {n t : Nat} {R : Unit × CS} (hv : ENV d S s) (ht : tpI s = t) (hk : s.a 64 t = 22) (h3 : 3 ≤ phI s) (t99 : t + 1 < 1000) (e : f_X1_comparison N E1 E2 S = some R) (g : f_X12_parse_10 N n (TH s t 3 16) = some U) : (¬ R.2.i 32 = 0 ∧ ¬ U.i 15 = 0) ∨ ∃ (m : Nat) (u : RS), f_X12_parse_10 N m u = some U ∧ XO d t S s R.2 u := by
  have hX := sx_expression hN hm1 hm2 hE
  unfold f_X1_comparison at e
  obtain ⟨p1, e1, e⟩ := hf_bind e
  have perX : ∀ (T : CS) (W : Unit × CS), f_X1_expression N E1 E2 T = some W → ¬ T.i 32 = 0 → ¬ W.2.i 32 = 0 := fun T W hW z => by rw [kF_X1_expression N E1 E2 hm1 hm2 T W hW z]; exact z
  -- a fault stays
  have per : ¬ p1.2.i 32 = 0 → ¬ R.2.i 32 = 0 := fun z => by
    by_cases c : cmpC (p1.2.i 43)
    · obtain ⟨o, o0, ho⟩ := e_cmp1 (N := N) (S := p1.2) c
      rw [ho, ob_some, if_pos o0] at e
      obtain ⟨x, ex, e⟩ := hf_bind e
      obtain ⟨y, ey, e⟩ := hf_bind e
      obtain ⟨w, ew, e⟩ := hf_bind e
      cases e
      rw [fst_add ew]
      refine perX _ _ ey ?_
      rw [kF_X9_advance N p1.2 x ex z]
      exact z
    · rw [e_cmp0 c, ob_some, if_neg (show ¬ (0 : Int32) ≤ -1 by decide)] at e
      obtain ⟨x, ex, e⟩ := hf_bind e
      cases e
      exact y_misp ex
  rcases hX d S (TH s t 3 16) U n (t + 1) p1 hv.th (TH.tp ht (by omega)) TH.fk TH.fs (show 3 ≤ phI s from h3) e1 g with ⟨x1, x2⟩ | ⟨m2, u, g3, xo⟩
  · exact Or.inl ⟨per x1, x2⟩
  obtain ⟨w1, w2, w3, w4, w5, w6, w7, w8, w9⟩ := xo
  have u64 : u.a 64 t = 22 := by
    rw [(w3 t (by omega)).1, TH.fk0 (Nat.le_refl t)]
    exact hk
  have u65 : u.a 65 t = 3 := by
    rw [(w3 t (by omega)).2.1]
    exact TH.st
  have tu : tpI u = t := by
    rw [w2]
    omega
  have w6' : (s.i 11).toInt + 1 ≤ (u.i 11).toInt := w6
  have w7' : phI s + 1 ≤ phI u := w7
  have w8' : (s.i 17).toInt + 1 ≤ (u.i 17).toInt := w8
  have w9' : u.i 19 = s.i 19 := w9
  obtain ⟨m3, V3, hV3, g4⟩ := rl_22 g3 tu w1.1.2.1 u64
  have is : cmpC (p1.2.i 43) ↔ (u.i 10 = 60 ∨ u.i 10 = 62 ∨ u.i 10 = 300 ∨ u.i 10 = 301 ∨ u.i 10 = 302 ∨ u.i 10 = 303) := by
    unfold cmpC
    rw [tk_is w1 (a := 60) (b := 60) (Or.inl ⟨by decide, by decide⟩) (by decide), tk_is w1 (a := 62) (b := 62) (Or.inl ⟨by decide, by decide⟩) (by decide), tk_is w1 (a := 128) (b := 300) (Or.inl ⟨by decide, by decide⟩) (by decide), tk_is w1 (a := 129) (b := 301) (Or.inl ⟨by decide, by decide⟩) (by decide), tk_is w1 (a := 130) (b := 302) (Or.inl ⟨by decide, by decide⟩) (by decide), tk_is w1 (a := 131) (b := 303) (Or.inl ⟨by decide, by decide⟩) (by decide)]
  rcases e_onec tu w1.1.2.1 u65 hV3 with ⟨c, hV4⟩ | ⟨c, f3⟩
  · have c' := is.mpr c
    obtain ⟨o, o0, ho⟩ := e_cmp1 (N := N) (S := p1.2) c'
    rw [ho, ob_some, if_pos o0] at e
    obtain ⟨x, ex, e⟩ := hf_bind e
    obtain ⟨y, ey, e⟩ := hf_bind e
    obtain ⟨w, ew, e⟩ := hf_bind e
    cases e
    unfold f_X12_one_281 at hV4
    obtain ⟨-, hV4⟩ := hf_ite hV4
    obtain ⟨v, hv2, hV4⟩ := hf_bind hV4
    rw [ob_id] at hV4
    rw [tp_nat tu] at hv2
    obtain ⟨s3, hs3⟩ : ∃ z, z = RS.setA u 66 t (u.i 10) := ⟨_, rfl⟩
    rw [← hs3] at hv2
    have v3 : ENV d p1.2 s3 := by rw [hs3]; exact setA_env (Or.inr (by omega)) w1
    have k3 : TBK u s3 := by rw [hs3]; exact ⟨setA_tb0 (Or.inr (by omega)), Int.le_refl _, fun _ _ => rfl⟩
    have f3 : FRB t u s3 := by rw [hs3]; exact setA_frb (Or.inr ⟨by omega, by omega, Nat.le_refl _⟩)
    have j3 : s3.i 17 = u.i 17 ∧ s3.i 11 = u.i 11 ∧ s3.i 20 = u.i 20 ∧ s3.i 19 = u.i 19 ∧ s3.a 64 = u.a 64 := by
      rw [hs3]
      exact ⟨rfl, rfl, rfl, rfl, rfl⟩
    have t3 : tpI s3 = t := by rw [hs3]; exact tu
    clear hs3
    have nz : ¬ p1.2.i 43 = 0 := fun z => by
      rw [z] at c'
      exact absurd c' (by unfold cmpC; decide)
    obtain ⟨a1, a2, a3, a4, a5, a6, a7, a8, a9, a10⟩ := v3.adv hN nz ex hv2
    have tv := tq_of a2 t3
    obtain ⟨hV5, -⟩ := r_then tv hV4
    rw [hV5] at g4
    have v17 : (v.i 17).toInt = (u.i 17).toInt + 1 := by
      rw [a4, ← j3.1]
      exact t17_up (N := N) v3
    have pv : phI v = phI u + 3 := by
      unfold phI
      rw [a6, v17, j3.2.2.1]
      omega
    have a5' : (u.i 11).toInt + 1 ≤ (v.i 11).toInt := by rw [j3.2.1] at a5; exact a5
    rcases hX d x.2 (TH v t 4 16) U m3 (t + 1) y a1.th (TH.tp tv (by omega)) TH.fk TH.fs (show 3 ≤ phI v by omega) ey g4 with ⟨x1, x2⟩ | ⟨m4, u4, g5, xo⟩
    · refine Or.inl ⟨?_, x2⟩
      rw [fst_add ew]
      exact x1
    · obtain ⟨b1, b2, b3, b4, b5, b6, b7, b8, b9⟩ := xo
      have x64 : u4.a 64 t = 22 := by
        rw [(b3 t (by omega)).1, TH.fk0 (Nat.le_refl t), ((FRB.of (t := t + 1) a2) t (by omega)).1, j3.2.2.2.2]
        exact u64
      have x65 : u4.a 65 t = 4 := by
        rw [(b3 t (by omega)).2.1]
        exact TH.st
      have tu4 : tpI u4 = t := by
        rw [b2]
        omega
      have b6' : (v.i 11).toInt + 1 ≤ (u4.i 11).toInt := b6
      have b7' : phI v + 1 ≤ phI u4 := b7
      have b8' : (v.i 17).toInt + 1 ≤ (u4.i 17).toInt := b8
      have b9' : u4.i 19 = v.i 19 := b9
      obtain ⟨m5, V5, hV6, g6⟩ := rl_22 g5 tu4 b1.1.2.1 x64
      unfold f_X12_one at hV6
      obtain ⟨-, hV6⟩ := hf_ite hV6
      rw [tp_nat tu4, if_neg (by rw [x65]; decide), if_neg (by rw [x65]; decide), if_neg (by rw [x65]; decide), if_neg (by rw [x65]; decide)] at hV6
      obtain ⟨z, hz, hV6⟩ := hf_bind hV6
      cases hV6
      obtain ⟨q1, q2, q3, q4, -, -⟩ := em_env b1 (by omega) hz
      obtain ⟨kq, y10, y11, -, -, -, -, y17, y19, -⟩ := qj2_eq q3
      have kd := kd_X0_add N y.2 o 0 w ew
      obtain ⟨kp, -, -, -, e22, -, -, e43, -, -, -, e18⟩ := pj2_eq kd
      refine Or.inr ⟨m5, _, g6, pop_env (q1.kd kd), tp_sub (tq_of kq tu4) (by omega), (((((TH.frb.tr (w3.mo (by omega))).tr f3).tr (FRB.of a2)).tr TH.frb).tr (b3.mo (by omega))).tr ((FRB.of kq).tr pop_frb), (((((TH.tbk.tr w4).tr k3).tr (TBK.of a2 (by rw [a6]; exact Int.le_refl _) (fun j _ => by rw [a7]))).tr TH.tbk).tr b4).tr (q2.tr pop_tbk), ((w5.tr (CKX.of a3 a8 a9)).tr b5).tr (CKX.of kp e22 e18), ?_, ?_, ?_, ?_⟩
      · show (s.i 11).toInt + 1 ≤ (z.2.i 11).toInt
        rw [y11]
        omega
      · show phI s + 1 ≤ phI z.2
        omega
      · show (s.i 17).toInt + 1 ≤ (z.2.i 17).toInt
        rw [y17]
        omega
      · exact (y19.trans b9').trans ((a10.trans j3.2.2.2.1).trans w9')
  · have c' : ¬ cmpC (p1.2.i 43) := fun z => c (is.mp z)
    rw [e_cmp0 c', ob_some, if_neg (show ¬ (0 : Int32) ≤ -1 by decide)] at e
    obtain ⟨x, ex, e⟩ := hf_bind e
    cases e
    exact Or.inl ⟨y_misp ex, u_flt g4 f3⟩
