/-! both readers: what stands side by side, rows aside -/
def RAW (S : CS) (s : RS) : Prop := 0 ≤ (s.i 20).toInt ∧ 0 ≤ phI s ∧ (s.i 17).toInt ≤ (s.i 11).toInt + 1 ∧ 0 ≤ (S.i 22).toInt ∧ 3 * (S.i 22).toInt ≤ (s.i 11).toInt ∧ 0 ≤ (S.i 21).toInt ∧ (S.i 21).toInt ≤ 3 * (s.i 11).toInt + 8 ∧ SJB S s ∧ WPI s ∧ LBW S
def ENW (d : Int32) (S : CS) (s : RS) : Prop := BT S s ∧ NMS S s ∧ (S.i 34 = s.i 19 ∧ 0 ≤ (s.i 19).toInt ∧ (s.i 19).toInt ≤ 20) ∧ CNS d S s ∧ LTE S s ∧ KND S s ∧ RAW S s
theorem ENV.w {d : Int32} {S : CS} {s : RS} (h : ENV d S s) : ENW d S s := by
  obtain ⟨h1, h2, h3, h4, h5, h6, ⟨r1, r2, r3, r4, r5, r6, r7, r8, r9, r10, r11⟩⟩ := h
  exact ⟨h1, h2, h3, h4, h5, h6, ⟨r1, r2, r3, r4, r5, r6, r7, r9, r10, r11⟩⟩
theorem ENW.v {d : Int32} {S : CS} {s : RS} (h : ENW d S s) (w : RWI S) : ENV d S s := by
  obtain ⟨h1, h2, h3, h4, h5, h6, ⟨r1, r2, r3, r4, r5, r6, r7, r9, r10, r11⟩⟩ := h
  exact ⟨h1, h2, h3, h4, h5, h6, ⟨r1, r2, r3, r4, r5, r6, r7, w, r9, r10, r11⟩⟩
theorem ENW.gx {d : Int32} {S R : CS} {s : RS} (h : ENW d S s) (ei : ∀ j : Nat, j ≠ 21 → j ≠ 36 → j ≠ 38 → j ≠ 53 → j ≠ 54 → j ≠ 55 → j ≠ 56 → R.i j = S.i j) (ea : R.a 0 = S.a 0 ∧ R.a 9 = S.a 9 ∧ R.a 49 = S.a 49) (eb : R.b = S.b) (el : R.l = S.l) (sj : SJB R s) (t21 : 0 ≤ (R.i 21).toInt ∧ (R.i 21).toInt ≤ 3 * (s.i 11).toInt + 8) : ENW d R s := by
  have i32 := ei 32 (by decide) (by decide) (by decide) (by decide) (by decide) (by decide) (by decide)
  have i34 := ei 34 (by decide) (by decide) (by decide) (by decide) (by decide) (by decide) (by decide)
  have i41 := ei 41 (by decide) (by decide) (by decide) (by decide) (by decide) (by decide) (by decide)
  have i42 := ei 42 (by decide) (by decide) (by decide) (by decide) (by decide) (by decide) (by decide)
  have i43 := ei 43 (by decide) (by decide) (by decide) (by decide) (by decide) (by decide) (by decide)
  have i44 := ei 44 (by decide) (by decide) (by decide) (by decide) (by decide) (by decide) (by decide)
  have i45 := ei 45 (by decide) (by decide) (by decide) (by decide) (by decide) (by decide) (by decide)
  have i50 := ei 50 (by decide) (by decide) (by decide) (by decide) (by decide) (by decide) (by decide)
  have i24 := ei 24 (by decide) (by decide) (by decide) (by decide) (by decide) (by decide) (by decide)
  have i25 := ei 25 (by decide) (by decide) (by decide) (by decide) (by decide) (by decide) (by decide)
  have i26 := ei 26 (by decide) (by decide) (by decide) (by decide) (by decide) (by decide) (by decide)
  have i37 := ei 37 (by decide) (by decide) (by decide) (by decide) (by decide) (by decide) (by decide)
  have i13 := ei 13 (by decide) (by decide) (by decide) (by decide) (by decide) (by decide) (by decide)
  have i22 := ei 22 (by decide) (by decide) (by decide) (by decide) (by decide) (by decide) (by decide)
  obtain ⟨a0, a9, a49⟩ := ea
  obtain ⟨⟨h1, h2, ⟨t1, t2, t3, t4⟩, ⟨k1, k2, k3, k4, k5, k6⟩, h5, h6, h7, h8⟩, ⟨n1, n2, n3, n4⟩, ⟨o1, o2⟩, ⟨c1, c2, c3⟩, l1, ⟨m1, m2, m3, m4⟩, ⟨r1, r2, r3, r4, r5, r6, r7, r9, r10, r11⟩⟩ := h
  refine ⟨⟨by rw [i32]; exact h1, h2, ⟨by rw [i41]; exact t1, t2, fun k hk => by rw [a0]; exact t3 k hk, fun k hk => by rw [eb]; exact t4 k hk⟩, ⟨by rw [i44]; exact k1, by rw [i42]; exact k2, by rw [i43]; exact k3, by rw [i43]; exact k4, fun q => ?_, fun q => ?_⟩, h5, h6, ?_, ?_⟩, ⟨by rw [i50]; exact n1, n2, fun k hk => by rw [eb, a49]; exact n3 k hk, n4⟩, ⟨by rw [i34]; exact o1, o2⟩, ⟨by rw [i24]; exact c1, by rw [i26]; exact c2, by rw [i25]; exact c3⟩, by unfold LTE at *; rw [i37]; exact l1, ⟨by rw [i13]; exact m1, by rw [a9]; exact m2, fun k h1 h2 => by rw [a9]; exact m3 k h1 h2, m4⟩, ⟨r1, r2, r3, by rw [i22]; exact r4, by rw [i22]; exact r5, t21.1, t21.2, sj, r10, r11.kd i42 i43 i44 i45 eb⟩⟩
  · rw [i43] at q
    rw [el]
    exact k5 q
  · rw [i43] at q
    rw [i45]
    exact k6 q
  · unfold LC AB BY at *
    rw [i41, i42, i43, i44, i45, el, a0]
    exact h7
  · unfold WDC at *
    rw [eb]
    exact h8
theorem ENW.adv {N : Nat} (hN : 1000 ≤ N) {d : Int32} {S : CS} {s : RS} {R : Unit × CS} {u : RS} (h : ENW d S s) (hz : ¬ S.i 43 = 0) (e : f_X9_advance N S = some R) (g : f_X12_next N s = some u) : ENW d R.2 u ∧ qj u = qj s ∧ pj R.2 = pj S ∧ u.i 17 = s.i 17 + 1 ∧ (s.i 11).toInt + 1 ≤ (u.i 11).toInt ∧ u.i 20 = s.i 20 ∧ u.a 22 = s.a 22 ∧ R.2.i 22 = S.i 22 ∧ A18 S R.2 ∧ u.i 19 = s.i 19 ∧ ADV S R.2 ∧ (u.i 17).toInt = (s.i 17).toInt + 1 := by
  obtain ⟨b, a, tu, b9⟩ := y_adv hN h.1 e g
  have q1 := krq_f_X12_next N s u g
  have q2 := kc_X9_advance N S R e
  obtain ⟨h1, ⟨n1, n2, n3, n4⟩, ⟨o1, o2, o3⟩, ⟨c1, c2, c3⟩, l1, ⟨m1, m2, m3, m4, m5⟩, ⟨r1, r2, r3, r4, r5, r6, r7, r9, r10, r11⟩⟩ := h
  have e17 : u.i 17 = s.i 17 + 1 := tu.1 17 (by decide) (by decide) (by decide) (by decide)
  have e19 : u.i 19 = s.i 19 := tu.1 19 (by decide) (by decide) (by decide) (by decide)
  have e20 : u.i 20 = s.i 20 := tu.1 20 (by decide) (by decide) (by decide) (by decide)
  have a22 : u.a 22 = s.a 22 := by rw [tu.2.1]; rfl
  have c34 : R.2.i 34 = S.i 34 := a.1.2 34 (by decide) (by decide) (by decide) (by decide)
  have c22 : R.2.i 22 = S.i 22 := a.1.2 22 (by decide) (by decide) (by decide) (by decide)
  have c18' : R.2.a 18 = S.a 18 := by rw [a.1.1.2.2.2.2.2.2.2.2.2.2]
  obtain ⟨-, -, -, -, i13, -, i24, i25, i26, -, -, i37, -, i50, -, -, -, -, -, a9, -, a49, -, er, eo, eol, eb, i21, ehk⟩ := pj_eq q2
  obtain ⟨j2, j3, -, j18, -, -, -, j38, -, -, -, j53, j54, j55, -, -, -, -, -, x4, -, -, -, -, -, -, -, -, x41, -, -, -, -, -, -, -, -, -, -, -, -, -, -, -, -, -, -, -, -, -, -, -, y39, -, -⟩ := qj_eq q1
  have k12 := h1.2.2.2.1.2.1
  have k11 := h1.2.2.2.1.1
  have lc := h1.2.2.2.2.2.2.1.2.2.2.1 hz
  rw [k11, k12] at lc
  have f1 : (s.i 11).toInt + 1 ≤ (u.i 11).toInt := by omega
  have c18 : A18 S R.2 := ⟨c18', by rw [k11, b.2.2.2.1.1]; omega⟩
  have t17 : (s.i 17 + 1).toInt = (s.i 17).toInt + 1 := by
    have := h1.2.2.2.2.1
    have := h1.2.2.1.2.1
    have e1 : (1 : Int32).toInt = 1 := by decide
    unfold phI at r2
    rw [toInt_add] <;> rw [e1] <;> omega
  refine ⟨⟨b, ⟨by rw [i50, j38]; exact n1, by rw [j38]; omega, fun k hk => by rw [j38] at hk; rw [eb, a49, y39, x41]; exact n3 k hk, fun j k hj hk => by rw [j38] at hk; rw [y39]; exact n4 j k hj hk⟩, ⟨by rw [c34, e19]; exact o1, by rw [e19]; exact o2, by rw [e19]; exact o3⟩, ⟨by rw [i24, j53]; exact c1, by rw [i26, j55]; exact c2, by rw [i25, j54]; exact c3⟩, by unfold LTE at *; rw [i37, j18]; exact l1, ⟨by rw [i13, j3]; exact m1, by rw [a9]; exact m2, fun k h1 h2 => by rw [j3] at h2; rw [a9, x4]; exact m3 k h1 h2, by rw [j3]; exact m4, fun k h1 h2 => by rw [j3] at h2; rw [x4]; exact m5 k h1 h2⟩, ⟨by rw [e20]; exact r1, by unfold phI at *; rw [e20, e17, t17]; omega, by rw [e17, t17]; omega, by rw [c22]; exact r4, by rw [c22]; omega, by rw [i21]; exact r6, by rw [i21]; omega, (r9.kp q2 rfl).up (by omega), r10.kp q1, r11.adv hN h1.2.2.2.2.2.2.1 h1.2.2.2.2.2.2.2 eb e⟩⟩, q1, q2, e17, f1, e20, a22, c22, c18, e19, a, by rw [e17, t17]⟩
/-- the rows are paid later than they are pushed -/
theorem PSR.late {S R X : CS} {a m : Nat} {v x3 : Int32} (h : PSR S R a m v x3) (w : RWI S) (hm : (S.i 53).toInt = (m : Int)) (m4 : m < 399) (nv : ¬ v = 300 ∧ ¬ v = 301 ∧ ¬ v = 302 ∧ ¬ v = 303) (er : X.r = R.r) (eL : X.L = R.L) (ek : X.k = R.k) (eh : X.hs = R.hs) (e53 : X.i 53 = R.i 53) (eo : ∀ b : Nat, X.o b 0 = R.o b 0 ∧ X.ol b = R.ol b) (pay : WCS S m + 3 ≤ eI X) (psg : SGS S m + (if v = 302 then 2 else if v = 301 ∨ v = 212 ∨ v = 218 ∨ v = 213 ∨ v = 215 ∨ v = 216 then 1 else 0) ≤ sgI X) : RWI X := by
  obtain ⟨-, -, ⟨j53, -⟩, rr1, rr2, ⟨z1, z2, z3⟩, -, -, ⟨f0, -, -, fl⟩, -, -⟩ := id h
  have es : (cnI S).toNat = m := by
    show (S.i 53).toInt.toNat = m
    rw [hm]
    exact Int.toNat_natCast _
  have nr := w.2.2.2.1.2
  have iq := w.2.2.2.2.1
  rw [es] at nr iq
  have rsq := h.rsq m4
  obtain ⟨u1, u2, -, -, -⟩ := rsq.put nr rr1
  obtain ⟨iq2, wc2⟩ := iq.plain rsq nr rr1 ⟨by rw [f0]; exact nv.1, by rw [f0]; exact nv.2.1, by rw [f0]; exact nv.2.2.1, fun z => nv.2.2.2 (f0.symm.trans z.1)⟩
  have sgn1 : sgn R a = (if v = 302 then 2 else if v = 301 ∨ v = 212 ∨ v = 218 ∨ v = 213 ∨ v = 215 ∨ v = 216 then 1 else 0) := by
    unfold sgn
    rw [f0]
  have e53' : (X.i 53).toInt = (m : Int) + 1 := by rw [e53, j53, ad1 (by omega) (by omega), hm]
  have ec : (cnI X).toNat = m + 1 := by
    show (X.i 53).toInt.toNat = m + 1
    rw [e53']
    omega
  have nrR : NR R (m + 1) := fun i hi => by
    by_cases c : i = m
    · exact ⟨a, by rw [c]; exact rr1⟩
    · obtain ⟨b, hb⟩ := nr i (by omega)
      exact ⟨b, by rw [rr2 51 i (fun z => c z.2)]; exact hb⟩
  have cq : ∀ n : Nat, CSQ R X n := fun n i hi => ⟨by rw [er], fun b _ => eo b⟩
  have sm := (cq (m + 1)).sums nrR
  unfold RWI
  rw [ec]
  refine ⟨fun i b hi hb => ?_, fun i j b hi hj ha hb => ?_, by rw [eL, eh]; exact z3, ⟨by show 0 ≤ (X.i 53).toInt; omega, fun i hi => by rw [er]; exact nrR i hi⟩, fun k hk => ?_, ?_, ?_⟩
  · rw [er] at hb
    have q := z1 i b hi hb
    unfold oK at *
    rw [eL, ek]
    exact q
  · rw [er] at ha hb
    exact z2 i j b hi hj ha hb
  · obtain ⟨i1, i2, i3, i4, i5⟩ := (cq k).sums (fun i hi => nrR i (by omega))
    rw [i1, i3, i4, i5]
    exact iq2 k hk
  · rw [sm.1, wc2]
    exact pay
  · rw [sm.2.1, u2, sgn1]
    exact psg
theorem PSR.sq {S R : CS} {a m : Nat} {v x3 : Int32} (h : PSR S R a m v x3) (hm : (S.i 53).toInt = (m : Int)) (m38 : m ≤ 380) (h54 : 0 ≤ (S.i 54).toInt ∧ (S.i 54).toInt < 2000) : PSQ S R a m v x3 := by
  obtain ⟨zR, r53, r54, r55, r52, r21, r44⟩ := h.z hm (by omega) h54
  obtain ⟨-, j1, -, rr1, -, -, nb, -, ⟨f0, f1, f3, fl⟩, -, ⟨-, -, -, -, f14⟩⟩ := id h
  exact ⟨zR, ⟨r53, r54, r55, r52⟩, ⟨j1 50 (by decide) (by decide), j1 56 (by decide) (by decide), j1 36 (by decide) (by decide)⟩, ⟨hm, m38, rr1⟩, ⟨f0, f1, f3, f14⟩, fun i b hi hb => nb i b (by omega) (by omega) hb⟩
theorem PSQ.nt {N : Nat} {S R : CS} {a m : Nat} {v x3 : Int32} {w : Int32 × CS} (h : PSQ S R a m v x3) (e : f_X0_newTarget N R = some w) : PSQ S w.2 a m v x3 := by
  unfold f_X0_newTarget at e
  cases e
  obtain ⟨⟨c1, c2, c3, c4, c5, c6, c7, c8⟩, ⟨d1, d2, d3, d4⟩, ⟨e1, e2, e3⟩, h4, ⟨f0, f1, f3, f14⟩, h6⟩ := h
  exact ⟨⟨c1, c2, c3, c4, c5, c6, c7, c8⟩, ⟨d1, d2, d3, d4⟩, ⟨e1, e2, e3⟩, h4, ⟨f0, f1, f3, f14⟩, h6⟩
theorem PSQ.kd {S R X : CS} {a m : Nat} {v x3 : Int32} (h : PSQ S R a m v x3) (hm : 0 ≤ (S.i 53).toInt) (e : pj2 X = pj2 R) : PSQ S X a m v x3 := by
  have kp := pj2_eq e
  exact h.cx hm (CKX.of kp.1 kp.2.2.2.2.1 kp.2.2.2.2.2.2.2.2.2.2.2) (pj_54 kp.1) (pj_eq kp.1).2.2.2.2.2.2.2.2.2.2.2.2.2.2.2.2.1 (pj_eq kp.1).2.2.2.2.2.2.2.2.2.2.2.2.2.2.2.2.2.2.2.2.2.2.1
