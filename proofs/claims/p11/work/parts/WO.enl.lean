/-! both readers: what the small methods do to what stands -/
theorem BT.kd {S R : CS} {s : RS} (h : BT S s) (e : pj2 R = pj2 S) : BT R s := by
  obtain ⟨ep, e32, e33, e34, e22, e41, e42, e43, e44, e45, el, e18⟩ := pj2_eq e
  obtain ⟨-, -, -, -, -, -, -, -, -, -, -, -, -, -, -, -, -, -, a0, -, -, -, -, -, -, -, eb, -⟩ := pj_eq ep
  obtain ⟨h1, h2, ⟨t1, t2, t3, t4⟩, ⟨k1, k2, k3, k4, k5, k6⟩, h5, h6, h7, h8⟩ := h
  refine ⟨by rw [e32]; exact h1, h2, ⟨by rw [e41]; exact t1, t2, fun k hk => by rw [a0]; exact t3 k hk, fun k hk => by rw [eb]; exact t4 k hk⟩, ⟨by rw [e44]; exact k1, by rw [e42]; exact k2, by rw [e43]; exact k3, by rw [e43]; exact k4, fun q => ?_, fun q => ?_⟩, h5, h6, ?_, ?_⟩
  · rw [e43] at q
    rw [el]
    exact k5 q
  · rw [e43] at q
    rw [e45]
    exact k6 q
  · unfold LC AB BY at *
    rw [e41, e42, e43, e44, e45, el, a0]
    exact h7
  · unfold WDC at *
    rw [eb]
    exact h8
theorem sum_eq {S R : CS} (hn : NR S (cnI S).toNat) (rs : RSQ S R (cnI S).toNat) (e53 : R.i 53 = S.i 53) : SGS R (cnI R).toNat = SGS S (cnI S).toNat ∧ WCS R (cnI R).toNat = WCS S (cnI S).toNat := by
  obtain ⟨q1, q2, q3, q4, q5⟩ := rs.sums hn
  have ec : cnI R = cnI S := by unfold cnI; rw [e53]
  rw [ec]
  exact ⟨q2, q1⟩
theorem RWI.mv {S R : CS} (h : RWI S) (er : R.r = S.r) (eo : R.o = S.o) (eol : R.ol = S.ol) (e53 : R.i 53 = S.i 53) (ehk : R.hs = S.hs ∧ R.L = S.L ∧ R.k = S.k) (hs : SGS S (cnI S).toNat ≤ sgI R) (he : eI S ≤ eI R) : RWI R := by
  obtain ⟨h1, h2, h3, ⟨h4, h5⟩, h6, h7, h8⟩ := h
  have ec : cnI R = cnI S := by unfold cnI; rw [e53]
  have rs : RSQ S R (cnI S).toNat := fun i _ => ⟨by rw [er], fun a _ => ⟨by rw [eo], by rw [eol]⟩⟩
  have hq := h6.of rs h5
  obtain ⟨g1, g2⟩ := sum_eq h5 rs e53
  refine ⟨fun i a hi e => ?_, fun i j a hi hj e1 e2 => ?_, by rw [ehk.1, ehk.2.1]; exact h3, ⟨by rw [ec]; exact h4, by rw [ec]; exact fun i hi => by rw [er]; exact h5 i hi⟩, by rw [ec]; exact hq, by rw [g2]; omega, by rw [g1]; exact hs⟩
  · rw [er] at e
    have := h1 i a hi e
    unfold oK at *
    rw [ehk.2.1, ehk.2.2]
    exact this
  · rw [er] at e1 e2
    exact h2 i j a hi hj e1 e2
theorem RWI.kp {S R : CS} (h : RWI S) (e : pj R = pj S) (hs : sgI S ≤ sgI R) (he : eI S ≤ eI R) : RWI R := by
  obtain ⟨-, -, -, -, -, -, -, -, -, -, -, -, -, -, i53, -, -, -, -, -, -, -, -, er, eo, eol, -, -, ehk⟩ := pj_eq e
  have := h.2.2.2.2.2.2
  exact h.mv er eo eol i53 ehk (by omega) he
theorem SJB.kp {S R : CS} {s : RS} (h : SJB S s) (e : pj R = pj S) {u : RS} (e11 : u.i 11 = s.i 11) : SJB R u := by
  obtain ⟨-, -, -, -, -, -, -, -, -, -, -, -, i38, -, -, i54, i55, -, -, -, -, -, -, -, -, -, -, -, -⟩ := pj_eq e
  unfold SJB at *
  rw [i54, i55, i38, e11]
  exact h
theorem SJB.rs {S : CS} {s u : RS} (h : SJB S s) (e11 : u.i 11 = s.i 11) : SJB S u := by
  unfold SJB at *
  rw [e11]
  exact h
theorem SJB.up {S : CS} {s u : RS} (h : SJB S s) (e11 : (s.i 11).toInt ≤ (u.i 11).toInt) : SJB S u := by
  unfold SJB at *
  omega
theorem WPI.of {s u : RS} (h : WPI s) (e43 : (s.i 43).toInt ≤ (u.i 43).toInt) (e56 : u.i 56 = s.i 56) (e59 : u.i 59 = s.i 59) (e29 : u.i 29 = s.i 29) (a58 : u.a 58 = s.a 58) (a62 : u.a 62 = s.a 62) : WPI u := by
  obtain ⟨⟨h1, h2, h3, h5⟩, h4⟩ := h
  refine ⟨⟨by omega, by rw [e56]; exact h2, fun q => ?_, by rw [e29]; exact h5⟩, fun j hj => ?_⟩
  · rw [e56] at q ⊢
    rw [a58]
    have := h3 q
    omega
  · rw [e59] at hj
    rw [a62, e29]
    exact h4 j hj
theorem WPI.kp {s u : RS} (h : WPI s) (e : qj u = qj s) : WPI u := by
  obtain ⟨-, -, -, -, -, i29, -, -, -, i43, -, -, -, -, i56, i59, -, -, -, -, -, -, -, -, -, -, -, -, -, -, -, -, -, -, -, -, -, a58, -, -, a62, -⟩ := qj_eq e
  exact h.of (by rw [i43]; exact Int.le_refl _) i56 i59 i29 a58 a62
theorem ENV.t21 {d : Int32} {S : CS} {s : RS} (h : ENV d S s) : 0 ≤ (S.i 21).toInt ∧ (S.i 21).toInt ≤ 3 * (s.i 11).toInt + 8 := ⟨h.2.2.2.2.2.2.2.2.2.2.2.1, h.2.2.2.2.2.2.2.2.2.2.2.2.1⟩
theorem ENV.ri {d : Int32} {S : CS} {s : RS} (h : ENV d S s) : RWI S := h.2.2.2.2.2.2.2.2.2.2.2.2.2.1
theorem ENV.sj {d : Int32} {S : CS} {s : RS} (h : ENV d S s) : SJB S s := h.2.2.2.2.2.2.2.2.2.2.2.2.2.2.1
theorem ENV.wp {d : Int32} {S : CS} {s : RS} (h : ENV d S s) : WPI s := h.2.2.2.2.2.2.2.2.2.2.2.2.2.2.2.1
theorem ENV.lb {d : Int32} {S : CS} {s : RS} (h : ENV d S s) : LBW S := h.2.2.2.2.2.2.2.2.2.2.2.2.2.2.2.2
theorem ENV.kd {d : Int32} {S R : CS} {s : RS} (h : ENV d S s) (e : pj2 R = pj2 S) : ENV d R s := by
  obtain ⟨h1, ⟨n1, n2, n3, n4⟩, ⟨o1, o2⟩, ⟨c1, c2, c3⟩, l1, ⟨k1, k2, k3, k4⟩, ⟨r1, r2, r3, r4, r5, r6, r7, r8, r9, r10, r11⟩⟩ := h
  have hb := h1.kd e
  obtain ⟨ep, e32, e33, e34, e22, e41, e42, e43, e44, e45, el, e18⟩ := pj2_eq e
  obtain ⟨-, -, -, -, i13, -, i24, i25, i26, -, -, i37, -, i50, -, -, -, -, -, a9, -, a49, -, er, eo, eol, eb, i21, ehk⟩ := pj_eq ep
  refine ⟨hb, ⟨by rw [i50]; exact n1, n2, fun k hk => by rw [eb, a49]; exact n3 k hk, n4⟩, ⟨by rw [e34]; exact o1, o2⟩, ⟨by rw [i24]; exact c1, by rw [i26]; exact c2, by rw [i25]; exact c3⟩, by unfold LTE at *; rw [i37]; exact l1, ⟨by rw [i13]; exact k1, by rw [a9]; exact k2, fun k h1 h2 => by rw [a9]; exact k3 k h1 h2, k4⟩, ⟨r1, r2, r3, by rw [e22]; exact r4, by rw [e22]; exact r5, by rw [i21]; exact r6, by rw [i21]; exact r7, r8.kp ep (by unfold sgI; rw [e34]; exact Int.le_refl _) (by unfold eI plI; rw [e43, e44]; exact Int.le_refl _), r9.kp ep rfl, r10, r11.kd e42 e43 e44 e45 eb⟩⟩
/-- the reference: all but the frames and the instructions -/
theorem ENV.kq {d : Int32} {S : CS} {s u : RS} (h : ENV d S s) (e38 : u.i 38 = s.i 38) (e2 : u.i 2 = s.i 2) (e3 : u.i 3 = s.i 3) (e18 : u.i 18 = s.i 18) (e53 : u.i 53 = s.i 53) (e54 : u.i 54 = s.i 54) (e55 : u.i 55 = s.i 55) (a1 : u.a 1 = s.a 1) (a4 : u.a 4 = s.a 4) (a41 : u.a 41 = s.a 41) (b9 : u.b 9 = s.b 9) (b39 : u.b 39 = s.b 39) (e10 : u.i 10 = s.i 10) (e11 : u.i 11 = s.i 11) (e12 : u.i 12 = s.i 12) (e14 : u.i 14 = s.i 14) (e15 : u.i 15 = s.i 15) (e17 : u.i 17 = s.i 17) (e19 : u.i 19 = s.i 19) (el : u.l = s.l) (h20 : 0 ≤ (u.i 20).toInt ∧ 0 ≤ phI u) (hw : WPI u) : ENV d S u := by
  obtain ⟨⟨h1, h2, ⟨t1, t2, t3, t4⟩, ⟨k1, k2, k3, k4, k5, k6⟩, h5, h6, h7, h8⟩, ⟨n1, n2, n3, n4⟩, ⟨o1, o2, o3⟩, ⟨c1, c2, c3⟩, l1, ⟨m1, m2, m3, m4, m5⟩, ⟨r1, r2, r3, r4, r5, r6, r7, r8, r9, r10, r11⟩⟩ := h
  refine ⟨⟨h1, by rw [e15]; exact h2, ⟨by rw [e2]; exact t1, by rw [e2]; exact t2, fun k hk => by rw [e2] at hk; rw [a1]; exact t3 k hk, fun k hk => by rw [b9]; exact t4 k hk⟩, ⟨by rw [e11]; exact k1, by rw [e12]; exact k2, by rw [e10]; exact k3, k4, fun q => by rw [el]; exact k5 q, fun q => by rw [e14]; exact k6 q⟩, by rw [e12, e2]; exact h5, fun k hk => by rw [b9]; exact h6 k hk, h7, h8⟩, ⟨by rw [e38]; exact n1, by rw [e38, e11]; exact n2, fun k hk => by rw [e38] at hk; rw [b39, a41]; exact n3 k hk, fun j k hj hk => by rw [e38] at hk; rw [b39]; exact n4 j k hj hk⟩, ⟨by rw [e19]; exact o1, by rw [e19]; exact o2, by rw [e19]; exact o3⟩, ⟨by rw [e53]; exact c1, by rw [e55]; exact c2, by rw [e54]; exact c3⟩, by unfold LTE at *; rw [e18]; exact l1, ⟨by rw [e3]; exact m1, m2, fun k h1 h2 => by rw [e3] at h2; rw [a4]; exact m3 k h1 h2, by rw [e3]; exact m4, fun k h1 h2 => by rw [e3] at h2; rw [a4]; exact m5 k h1 h2⟩, ⟨h20.1, h20.2, by rw [e17, e11]; exact r3, r4, by rw [e11]; exact r5, r6, by rw [e11]; exact r7, r8, r9.rs e11, hw, r11⟩⟩
/-- one token on -/
theorem ENV.adv {N : Nat} (hN : 1000 ≤ N) {d : Int32} {S : CS} {s : RS} {R : Unit × CS} {u : RS} (h : ENV d S s) (hz : ¬ S.i 43 = 0) (e : f_X9_advance N S = some R) (g : f_X12_next N s = some u) : ENV d R.2 u ∧ qj u = qj s ∧ pj R.2 = pj S ∧ u.i 17 = s.i 17 + 1 ∧ (s.i 11).toInt + 1 ≤ (u.i 11).toInt ∧ u.i 20 = s.i 20 ∧ u.a 22 = s.a 22 ∧ R.2.i 22 = S.i 22 ∧ A18 S R.2 ∧ u.i 19 = s.i 19 := by
  obtain ⟨b, a, tu, b9⟩ := y_adv hN h.1 e g
  have q1 := krq_f_X12_next N s u g
  have q2 := kc_X9_advance N S R e
  obtain ⟨h1, ⟨n1, n2, n3, n4⟩, ⟨o1, o2, o3⟩, ⟨c1, c2, c3⟩, l1, ⟨m1, m2, m3, m4, m5⟩, ⟨r1, r2, r3, r4, r5, r6, r7, r8, r9, r10, r11⟩⟩ := h
  have e17 : u.i 17 = s.i 17 + 1 := tu.1 17 (by decide) (by decide) (by decide) (by decide)
  have e19 : u.i 19 = s.i 19 := tu.1 19 (by decide) (by decide) (by decide) (by decide)
  have e20 : u.i 20 = s.i 20 := tu.1 20 (by decide) (by decide) (by decide) (by decide)
  have a22 : u.a 22 = s.a 22 := by rw [tu.2.1]; rfl
  have c34 : R.2.i 34 = S.i 34 := a.1.2 34 (by decide) (by decide) (by decide) (by decide)
  have c22 : R.2.i 22 = S.i 22 := a.1.2 22 (by decide) (by decide) (by decide) (by decide)
  have c18' : R.2.a 18 = S.a 18 := by rw [a.1.1.2.2.2.2.2.2.2.2.2.2]
  obtain ⟨-, -, -, -, i13, -, i24, i25, i26, -, -, i37, -, i50, -, -, -, -, -, a9, -, a49, -, er, eo, eol, eb, i21, ehk⟩ := pj_eq q2
  obtain ⟨j2, j3, -, j18, -, -, -, j38, -, -, -, j53, j54, j55, -, -, -, -, -, x4, -, -, -, -, -, -, -, -, x41, -, -, -, -, -, -, -, -, -, -, -, -, -, -, -, -, -, -, -, -, -, -, -, y39, -, -⟩ := qj_eq q1
  have k12 := h1.2.2.2.1.2.1
  have k11 := h1.2.2.2.1.1
  have lc := h1.2.2.2.2.2.2.1.2.2.2.1 hz
  rw [k11, k12] at lc
  have f1 : (s.i 11).toInt + 1 ≤ (u.i 11).toInt := by omega
  have c18 : A18 S R.2 := ⟨c18', by rw [k11, b.2.2.2.1.1]; omega⟩
  have t17 : (s.i 17 + 1).toInt = (s.i 17).toInt + 1 := by
    have := h1.2.2.2.2.1
    have := h1.2.2.1.2.1
    have e1 : (1 : Int32).toInt = 1 := by decide
    unfold phI at r2
    rw [toInt_add] <;> rw [e1] <;> omega
  refine ⟨⟨b, ⟨by rw [i50, j38]; exact n1, by rw [j38]; omega, fun k hk => by rw [j38] at hk; rw [eb, a49, y39, x41]; exact n3 k hk, fun j k hj hk => by rw [j38] at hk; rw [y39]; exact n4 j k hj hk⟩, ⟨by rw [c34, e19]; exact o1, by rw [e19]; exact o2, by rw [e19]; exact o3⟩, ⟨by rw [i24, j53]; exact c1, by rw [i26, j55]; exact c2, by rw [i25, j54]; exact c3⟩, by unfold LTE at *; rw [i37, j18]; exact l1, ⟨by rw [i13, j3]; exact m1, by rw [a9]; exact m2, fun k h1 h2 => by rw [j3] at h2; rw [a9, x4]; exact m3 k h1 h2, by rw [j3]; exact m4, fun k h1 h2 => by rw [j3] at h2; rw [x4]; exact m5 k h1 h2⟩, ⟨by rw [e20]; exact r1, by unfold phI at *; rw [e20, e17, t17]; omega, by rw [e17, t17]; omega, by rw [c22]; exact r4, by rw [c22]; omega, by rw [i21]; exact r6, by rw [i21]; omega, r8.kp q2 (by unfold sgI; rw [c34]; exact Int.le_refl _) ((ADV.gain h1.2.2.2.2.2.2.1 a).2.1 hz).2, (r9.kp q2 rfl).up (by omega), r10.kp q1, r11.adv hN h1.2.2.2.2.2.2.1 h1.2.2.2.2.2.2.2 eb e⟩⟩, q1, q2, e17, f1, e20, a22, c22, c18, e19⟩
