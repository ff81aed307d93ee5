/-! both readers: the end of a choice -/
theorem close_no {N : Nat} {S : CS} {c : Int32} {R : Unit × CS} (k : ¬ S.i 43 = c) (e : f_X1_close N S c = some R) : ¬ R.2.i 32 = 0 := by
  unfold f_X1_close f_X1_close_22 at e
  rw [e_fnd0 k, ob_some, if_pos rfl] at e
  obtain ⟨p, ep, e⟩ := hf_bind e
  cases e
  exact (show ¬ p.2.i 32 = 0 from y_misp ep)
def st22 (f : Int32) (v : PJT2) : PJT2 := (v.1, (v.2.1.1, v.2.1.2.1, v.2.1.2.2.1, f, v.2.1.2.2.2.2), v.2.2)
theorem pj2_22 (S : CS) (f : Int32) : pj2 (CS.setI S 22 f) = st22 f (pj2 S) := rfl
/-- the class: the cases are laid, and taken away -/
theorem y_adc {N : Nat} {f x2 : Int32} : ∀ (n : Nat) (S : CS) (x3 : Int32) (R : Unit × CS), f_X0_addCases_2 N n S f x2 x3 = some R → pj2 R.2 = pj2 (CS.setI S 22 f)
  | 0, _, _, _, e => by cases e
  | n + 1, S, x3, R, e => by
    have e' : b_X0_addCases_2 N (f_X0_addCases_2 N n) S f x2 x3 = some R := e
    unfold b_X0_addCases_2 at e'
    by_cases c : S.i 22 ≤ x3
    · rw [if_pos c] at e'
      obtain ⟨p, ep, e'⟩ := hf_bind e'
      obtain ⟨q, eq, e'⟩ := hf_bind e'
      cases e'
      exact (kd_X0_add N p.2 30 x2 q eq).trans (kd_X0_add N _ 6 0 p ep)
    · rw [if_neg c] at e'
      obtain ⟨p, ep, e'⟩ := hf_bind e'
      obtain ⟨q, eq, e'⟩ := hf_bind e'
      have h1 := (kd_X0_add N p.2 34 _ q eq).trans (kd_X0_add N S 0 _ p ep)
      have h2 := y_adc n q.2 (x3 + 1) R e'
      rw [h2, pj2_22, pj2_22, h1]
theorem ENV.s22 {d : Int32} {S : CS} {s : RS} {f : Int32} (h : ENV d S s) (h0 : 0 ≤ f.toInt) (h9 : f.toInt ≤ (S.i 22).toInt) : ENV d (CS.setI S 22 f) s := by
  obtain ⟨⟨h1, h2, h3, h4, h5, h6, h7, h8⟩, n, o, c, l, k, ⟨r1, r2, r3, r4, r5, r6, r7, r8, r9, r10, r11⟩⟩ := h
  exact ⟨⟨h1, h2, h3, h4, h5, h6, h7, h8⟩, n, o, c, l, k, ⟨r1, r2, r3, h0, (show 3 * f.toInt ≤ (s.i 11).toInt by omega), r6, r7, r8.mv rfl rfl rfl rfl ⟨rfl, rfl, rfl⟩ r8.2.2.2.2.2.2 (Int.le_refl _), r9, r10, r11⟩⟩
theorem TBC.eq {c : Int} {s0 q w : RS} (h : TBC c s0 q) (hi : ∀ k : Nat, k ≠ 43 → k ≠ 52 → k ≠ 63 → w.i k = q.i k) (ha : ∀ k : Nat, k ≠ 23 → w.a k = q.a k) (hb : w.b = q.b) (h43 : w.i 43 = q.i 43) : TBC c s0 w := by
  unfold TBC TBZ CDK at *
  rw [hi 2 (by decide) (by decide) (by decide), hi 3 (by decide) (by decide) (by decide), hi 8 (by decide) (by decide) (by decide), hi 38 (by decide) (by decide) (by decide), h43, hi 56 (by decide) (by decide) (by decide), ha 1 (by decide), ha 4 (by decide), hb, ha 40 (by decide), ha 41 (by decide), ha 44 (by decide), ha 46 (by decide), ha 47 (by decide), ha 50 (by decide), ha 51 (by decide), ha 48 (by decide), ha 49 (by decide), ha 57 (by decide), ha 58 (by decide), hi 59 (by decide) (by decide) (by decide), ha 60 (by decide), ha 61 (by decide), ha 62 (by decide), hi 29 (by decide) (by decide) (by decide), ha 30 (by decide), hi 33 (by decide) (by decide) (by decide), ha 34 (by decide), ha 37 (by decide), hi 24 (by decide) (by decide) (by decide), ha 25 (by decide), ha 27 (by decide), ha 28 (by decide), hi 20 (by decide) (by decide) (by decide), ha 22 (by decide)]
  exact h
/-- a choice is done, seen from its first arm on -/
def CHE (d : Int32) (t : Nat) (c : Int) (S0 : CS) (s0 : RS) (R : CS) (u : RS) : Prop := ENV d R u ∧ tpI u = (t : Int) - 1 ∧ FRB t s0 u ∧ (u.i 43 = s0.i 43 - 1 ∧ u.i 2 = s0.i 2) ∧ TBC c s0 (RS.setI (RS.setI u 43 (s0.i 43)) 52 (s0.i 52)) ∧ CKX S0 R ∧ (s0.i 11).toInt + 1 ≤ (u.i 11).toInt ∧ phI s0 + 3 ≤ phI u ∧ (s0.i 17).toInt + 1 ≤ (u.i 17).toInt ∧ (u.i 19).toInt = (s0.i 19).toInt - 1
set_option maxHeartbeats 4000000 in
theorem y_cend {N : Nat} (hN : 1000 ≤ N) {E1 : CS → Option (Unit × CS)} {E2 : CS → Option (Int32 × CS)} (hm1 : ∀ σ, Kf (CS.i σ 32) (E1 σ)) (hm2 : ∀ σ, Kf (CS.i σ 32) (E2 σ)) {d : Int32} {t n : Nat} {f x1 x2 x4 : Int32} {c : Int} {L : List Nat} {S0 S : CS} {s0 s U : RS} {R : Unit × CS} (hA : AMI d t f x4 c L S0 s0 S s) (hG : GA0 S0 s0) (hs : s.a 65 t = 2) (n19 : ¬ S.i 43 = 219) (n20 : ¬ S.i 43 = 220) (e : f_X1_choice_113 N E1 E2 S x1 x2 f x4 = some R) (g : f_X12_parse_10 N n s = some U) : (¬ R.2.i 32 = 0 ∧ ¬ U.i 15 = 0) ∨ ∃ (m : Nat) (u : RS), f_X12_parse_10 N m u = some U ∧ CHE d t c S0 s0 R.2 u := by
  have hsg := hA.sgr hG
  obtain ⟨hv, ht, h64, hck, htb, hfr, ⟨c1, c2, c3, c4⟩, ⟨p1, p2, p3, p4⟩, ⟨r1, r2⟩, v1, v2, ⟨v3, v4, v5, v6, v7⟩⟩ := hA
  have h15 := hv.1.2.1
  obtain ⟨m, V, hV, g2⟩ := rl_19 g ht h15 h64
  have i219 := tk_is hv (a := 219) (b := 429) (Or.inr ⟨by decide, by decide⟩) (by decide)
  have i220 := tk_is hv (a := 220) (b := 430) (Or.inr ⟨by decide, by decide⟩) (by decide)
  have i125 := tk_is hv (a := 125) (b := 125) (Or.inl ⟨by decide, by decide⟩) (by decide)
  unfold f_X12_arms at hV
  obtain ⟨hib, hV⟩ := hf_ite hV
  rw [tp_nat ht, if_neg (show ¬ s.a 65 t = 0 by rw [hs]; decide), if_neg (show ¬ s.a 65 t = 1 by rw [hs]; decide), if_pos hs, if_neg (fun z => n19 (i219.mpr z)), if_neg (fun z => n20 (i220.mpr z))] at hV
  have t9 : t < 1000 := by
    have h2 : (s.i 63).toInt = (t : Int) := ht
    have := hib.2
    omega
  have mis : ∀ p : Unit × CS, f_X1_misplaced N S = some p → f_X1_choice_122 N E1 E2 p.2 x1 x2 f x4 = some R → ¬ R.2.i 32 = 0 := fun p ep e => by
    have := y_misp ep
    rw [kF_X1_choice_122 N E1 E2 hm1 hm2 p.2 x1 x2 f x4 R e this]
    exact this
  unfold f_X1_choice_113 at e
  by_cases k : S.i 43 = 125
  · have kr := i125.mp k
    rw [if_pos kr] at hV
    by_cases c4' : (0 : Int32) ≤ x4
    · rw [if_pos c4'] at e
      have x0 : 0 ≤ x4.toInt := by
        have := le_int c4'
        rw [z_t0] at this
        exact this
      rw [if_pos (r2.mpr x0), y_can1 h15 (by rw [kr]; decide), ob_some, if_neg n10] at hV
      unfold f_X1_choice_122 at e
      unfold f_X12_arms_250 at hV
      rw [tp_nat ht] at hV
      obtain ⟨p35, e35, e⟩ := hf_bind e
      obtain ⟨p39, e39, e⟩ := hf_bind e
      obtain ⟨p43, e43, e⟩ := hf_bind e
      obtain ⟨p47, e47, e⟩ := hf_bind e
      cases e
      obtain ⟨q, hq, hV⟩ := hf_bind hV
      obtain ⟨-, hV⟩ := hf_ite hV
      obtain ⟨-, hV⟩ := hf_ite hV
      cases hV
      rcases y_close hN hv hsg (c := 125) (d := 125) (Or.inl ⟨by decide, by decide⟩) (by decide) (by decide) (by decide) e35 hq with ⟨o1, o2, o3⟩ | ⟨o1, o2, o3, o4, o5, o6, o7, o8, o9, o10, o11, o12⟩
      · refine Or.inl ⟨?_, u_flt g2 (show ¬ q.2.i 15 = 0 from o3)⟩
        have z1 : ¬ p39.2.i 32 = 0 := by rw [kF_X0_aim N p35.2 x1 p39 e39 o2]; exact o2
        have z2 : ¬ p43.2.i 32 = 0 := by rw [kF_X0_addCases N p39.2 f x4 p43 e43 z1]; exact z1
        show ¬ p47.2.i 32 = 0
        rw [kF_X0_aim N p43.2 x2 p47 e47 z2]
        exact z2
      · have k39 := kd_X0_aim N p35.2 x1 p39 e39
        have k43 : pj2 p43.2 = pj2 (CS.setI p39.2 22 f) := y_adc N p39.2 f p43 e43
        have k47 := (kd_X0_aim N p43.2 x2 p47 e47).trans k43
        have q39 := pj2_eq k39
        have q47 := pj2_eq k47
        have ck39 : CKN S0 p39.2 := (hck.exp (CKX.of o5 o10 o11)).exp (CKX.of q39.1 q39.2.2.2.2.1 q39.2.2.2.2.2.2.2.2.2.2.2)
        have ckr : CKX S0 p47.2 := by
          have z := ck39.1
          rw [← v1] at z
          exact z.tr (CKX.of q47.1 q47.2.2.2.2.1 q47.2.2.2.2.2.2.2.2.2.2.2)
        have f22 : f.toInt ≤ (p39.2.i 22).toInt := by
          rw [q39.2.2.2.2.1, o10]
          exact c1.2.1
        have env : ENV d p47.2 q.2 := ((o3.kd k39).s22 c1.1 f22).kd k47
        have tq : tpI q.2 = t := qj_63 o4 ht
        have t17 : (q.2.i 17).toInt = (s.i 17).toInt + 1 := by rw [o6]; exact t17_up (N := N) hv
        have pq : phI q.2 = phI s + 3 := by
          unfold phI
          rw [o8, t17]
          omega
        have tbq : TBC c s0 q.2 := ⟨htb.1.tr (TBZ.of o4), by rw [o8]; exact htb.2.1, fun j hj => by rw [o9]; exact htb.2.2 j hj⟩
        have frq : FRB t s0 q.2 := hfr.tr (FRB.of o4)
        obtain ⟨u, hu⟩ : ∃ y, y = RS.setI (RS.setA (RS.setI (RS.setI q.2 43 ((q.2.i 43) - 1)) 52 ((q.2.i 52) - 1)) 23 (((q.2.a 66 t) : Int32).toNatClampNeg) (q.2.i 20)) 63 ((q.2.i 63) - 1) := ⟨_, rfl⟩
        rw [← hu] at g2
        have ui : ∀ k : Nat, k ≠ 43 → k ≠ 52 → k ≠ 63 → u.i k = q.2.i k := by
          rw [hu]
          exact fun k h1 h2 h3 => (if_neg h3).trans ((if_neg h2).trans (if_neg h1))
        have ua : ∀ k : Nat, k ≠ 23 → u.a k = q.2.a k := by
          rw [hu]
          exact fun k h => if_neg h
        have ub : u.b = q.2.b ∧ u.l = q.2.l := by
          rw [hu]
          exact ⟨rfl, rfl⟩
        have u43 : u.i 43 = q.2.i 43 - 1 := by
          rw [hu]
          rfl
        have u52 : u.i 52 = q.2.i 52 - 1 := by
          rw [hu]
          rfl
        have u63 : u.i 63 = q.2.i 63 - 1 := by
          rw [hu]
          rfl
        clear hu
        have pu : phI u = phI q.2 := by
          unfold phI
          rw [ui 17 (by decide) (by decide) (by decide), ui 20 (by decide) (by decide) (by decide)]
        have q43 : q.2.i 43 = s0.i 43 := tbq.1.1.2.2.2.2.1
        have q56 : q.2.i 56 = s0.i 56 := tbq.1.1.2.2.2.2.2.2.1
        have w43 : (u.i 43).toInt = (s0.i 43).toInt - 1 := by
          have e1 : (1 : Int32).toInt = 1 := by decide
          have z := hG.2.2.2.1.1
          have z2 := Int32.toInt_lt (s0.i 43)
          rw [u43, q43, toInt_sub] <;> rw [e1] <;> omega
        have hwu : WPI u := by
          obtain ⟨⟨x1, x2, x3, x5⟩, x4⟩ := env.wp
          have z := hG.2.2.2.1.1
          have w56 : u.i 56 = s0.i 56 := (ui 56 (by decide) (by decide) (by decide)).trans q56
          refine ⟨⟨by omega, by rw [ui 56 (by decide) (by decide) (by decide)]; exact x2, fun y => ?_, by rw [ui 29 (by decide) (by decide) (by decide)]; exact x5⟩, fun j hj => ?_⟩
          · rw [w56] at y ⊢
            rw [ua 58 (by decide), (tbq.1.2.2.2.1 _ (by omega)).2, w43]
            exact hG.2.2.2.2 y
          · rw [ui 59 (by decide) (by decide) (by decide)] at hj
            rw [ua 62 (by decide), ui 29 (by decide) (by decide) (by decide)]
            exact x4 j hj
        have env2 : ENV d p47.2 u := env.kq (ui 38 (by decide) (by decide) (by decide)) (ui 2 (by decide) (by decide) (by decide)) (ui 3 (by decide) (by decide) (by decide)) (ui 18 (by decide) (by decide) (by decide)) (ui 53 (by decide) (by decide) (by decide)) (ui 54 (by decide) (by decide) (by decide)) (ui 55 (by decide) (by decide) (by decide)) (ua 1 (by decide)) (ua 4 (by decide)) (ua 41 (by decide)) (by rw [ub.1]) (by rw [ub.1]) (ui 10 (by decide) (by decide) (by decide)) (ui 11 (by decide) (by decide) (by decide)) (ui 12 (by decide) (by decide) (by decide)) (ui 14 (by decide) (by decide) (by decide)) (ui 15 (by decide) (by decide) (by decide)) (ui 17 (by decide) (by decide) (by decide)) (ui 19 (by decide) (by decide) (by decide)) ub.2 ⟨by rw [ui 20 (by decide) (by decide) (by decide)]; exact env.2.2.2.2.2.2.1, by rw [pu]; exact env.2.2.2.2.2.2.2.1⟩ hwu
        have q52 : q.2.i 2 = s0.i 2 := tbq.1.1.2.2.2.2.2.1
        have w11 : u.i 11 = q.2.i 11 := ui 11 (by decide) (by decide) (by decide)
        have w17 : u.i 17 = q.2.i 17 := ui 17 (by decide) (by decide) (by decide)
        have w19 : u.i 19 = q.2.i 19 := ui 19 (by decide) (by decide) (by decide)
        refine Or.inr ⟨m, u, g2, env2, ?_, ?_, ⟨by rw [u43, q43], (ui 2 (by decide) (by decide) (by decide)).trans q52⟩, ?_, ckr, by rw [w11]; omega, by omega, by rw [w17]; omega, by rw [w19, o12, v2]⟩
        · show (u.i 63).toInt = (t : Int) - 1
          rw [u63]
          exact tp_sub tq t9
        · exact frq.tr (fun j _ => ⟨by rw [ua 64 (by decide)], by rw [ua 65 (by decide)], by rw [ua 66 (by decide)], by rw [ua 67 (by decide)], by rw [ua 68 (by decide)], by rw [ua 69 (by decide)], by rw [ua 70 (by decide)], by rw [ua 71 (by decide)], by rw [ua 72 (by decide)], by rw [ua 73 (by decide)], by rw [ub.1]⟩)
        · exact tbq.eq (fun k h1 h2 h3 => (if_neg h2).trans ((if_neg h1).trans (ui k h1 h2 h3))) (fun k h => ua k h) ub.1 (show s0.i 43 = q.2.i 43 from q43.symm)
    · rw [if_neg c4'] at e
      obtain ⟨p, ep, e⟩ := hf_bind e
      have x0 : ¬ 0 ≤ x4.toInt := fun z => c4' (by rw [Int32.le_iff_toInt_le, z_t0]; exact z)
      rw [if_neg (fun z => x0 (r2.mp z))] at hV
      obtain ⟨q, hq, hV⟩ := hf_bind hV
      obtain ⟨q1, q2⟩ := y_can0 hq
      rw [if_pos q1] at hV
      cases hV
      exact Or.inl ⟨mis p ep e, u_flt g2 q2⟩
  · rw [if_neg (fun z => k (i125.mpr z))] at hV
    obtain ⟨q, hq, hV⟩ := hf_bind hV
    obtain ⟨q1, q2⟩ := y_can0 hq
    rw [if_pos q1] at hV
    cases hV
    refine Or.inl ⟨?_, u_flt g2 q2⟩
    by_cases c4' : (0 : Int32) ≤ x4
    · rw [if_pos c4'] at e
      unfold f_X1_choice_122 at e
      obtain ⟨p35, e35, e⟩ := hf_bind e
      obtain ⟨p39, e39, e⟩ := hf_bind e
      obtain ⟨p43, e43, e⟩ := hf_bind e
      obtain ⟨p47, e47, e⟩ := hf_bind e
      cases e
      have o2 := close_no k e35
      have z1 : ¬ p39.2.i 32 = 0 := by rw [kF_X0_aim N p35.2 x1 p39 e39 o2]; exact o2
      have z2 : ¬ p43.2.i 32 = 0 := by rw [kF_X0_addCases N p39.2 f x4 p43 e43 z1]; exact z1
      show ¬ p47.2.i 32 = 0
      rw [kF_X0_aim N p43.2 x2 p47 e47 z2]
      exact z2
    · rw [if_neg c4'] at e
      obtain ⟨p, ep, e⟩ := hf_bind e
      exact mis p ep e
/-- the arms one by one, then the end -/
theorem y_cloop {N : Nat} (hN : 1000 ≤ N) {E1 : CS → Option (Unit × CS)} {E2 : CS → Option (Int32 × CS)} (hm1 : ∀ σ, Kf (CS.i σ 32) (E1 σ)) (hm2 : ∀ σ, Kf (CS.i σ 32) (E2 σ)) (hE : SXR N 18 E1) (hB : ABK N (f_X7_armBlock N E1 E2)) {d : Int32} {t : Nat} {f x1 x2 : Int32} {c : Int} {S0 : CS} {s0 U : RS} (hG : GA0 S0 s0) : ∀ (n1 n : Nat) (L : List Nat) (S : CS) (s : RS) (x4 x5 : Int32) (R : Unit × CS), AMI d t f x4 c L S0 s0 S s → KD8 f S s → s.a 65 t = 2 → 0 ≤ x5.toInt → x5.toInt ≤ (s.i 11).toInt → f_X1_choice_69 N E1 E2 n1 S x1 x2 f x4 x5 = some R → f_X12_parse_10 N n s = some U → (¬ R.2.i 32 = 0 ∧ ¬ U.i 15 = 0) ∨ ∃ (m : Nat) (u : RS), f_X12_parse_10 N m u = some U ∧ CHE d t c S0 s0 R.2 u
  | 0, _, _, _, _, _, _, _, _, _, _, _, _, e, _ => by cases e
  | n1 + 1, n, L, S, s, x4, x5, R, hA, hk, hs, x0, x9, e, g => by
    have e' : b_X1_choice_69 N E1 E2 (f_X1_choice_69 N E1 E2 n1) S x1 x2 f x4 x5 = some R := e
    unfold b_X1_choice_69 at e'
    have step : ∀ p : Int32 × CS, (S.i 43 = 219 ∨ S.i 43 = 220) → f_X1_arm N E1 E2 S f x4 x2 = some p → f_X1_choice_69 N E1 E2 n1 p.2 x1 x2 f p.1 (x5 + 1) = some R → (¬ R.2.i 32 = 0 ∧ ¬ U.i 15 = 0) ∨ ∃ (m : Nat) (u : RS), f_X12_parse_10 N m u = some U ∧ CHE d t c S0 s0 R.2 u := fun p hc ep e => by
      rcases y_arm hN hm1 hm2 hE hB hG hA hk hs hc ep g with ⟨z1, z2⟩ | ⟨m, u, g2, ⟨L2, w1⟩, w2, w3, w4, w5, w6⟩
      · refine Or.inl ⟨?_, z2⟩
        rw [kF_X1_choice_69 N E1 E2 hm1 hm2 n1 p.2 x1 x2 f p.1 (x5 + 1) R e z1]
        exact z1
      · have hi := i11_hi hA.1
        have xx : (x5 + 1).toInt = x5.toInt + 1 := ad1 x0 (by omega)
        have k8 : KD8 f p.2 u := by
          unfold KDB at w2
          unfold KD8
          omega
        exact y_cloop hN hm1 hm2 hE hB hG n1 m L2 p.2 u p.1 (x5 + 1) R w1 k8 w3 (by omega) (by omega) e g2
    by_cases c9 : (900 : Int32) ≤ x5
    · rw [if_pos c9] at e'
      have z := no_900 hA.1 x9 c9
      exact y_cend hN hm1 hm2 hA hG hs (by rw [z]; decide) (by rw [z]; decide) e' g
    · rw [if_neg c9] at e'
      by_cases k1 : S.i 43 = 219
      · rw [e_fnd1 k1, ob_some, if_neg n10] at e'
        obtain ⟨p, ep, e'⟩ := hf_bind e'
        exact step p (Or.inl k1) ep e'
      · rw [e_fnd0 k1, ob_some, if_pos rfl] at e'
        by_cases k2 : S.i 43 = 220
        · rw [e_fnd1 k2, ob_some, if_neg n10] at e'
          obtain ⟨p, ep, e'⟩ := hf_bind e'
          exact step p (Or.inr k2) ep e'
        · rw [e_fnd0 k2, ob_some, if_pos rfl] at e'
          exact y_cend hN hm1 hm2 hA hG hs k1 k2 e' g
