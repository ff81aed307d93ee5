/-! both readers: rows aside, what the small methods do -/
theorem ENW.kd {d : Int32} {S R : CS} {s : RS} (h : ENW d S s) (e : pj2 R = pj2 S) : ENW d R s := by
  obtain ⟨h1, ⟨n1, n2, n3, n4⟩, ⟨o1, o2⟩, ⟨c1, c2, c3⟩, l1, ⟨k1, k2, k3, k4⟩, ⟨r1, r2, r3, r4, r5, r6, r7, r9, r10, r11⟩⟩ := h
  have hb := h1.kd e
  obtain ⟨ep, e32, e33, e34, e22, e41, e42, e43, e44, e45, el, e18⟩ := pj2_eq e
  obtain ⟨-, -, -, -, i13, -, i24, i25, i26, -, -, i37, -, i50, -, -, -, -, -, a9, -, a49, -, er, eo, eol, eb, i21, ehk⟩ := pj_eq ep
  exact ⟨hb, ⟨by rw [i50]; exact n1, n2, fun k hk => by rw [eb, a49]; exact n3 k hk, n4⟩, ⟨by rw [e34]; exact o1, o2⟩, ⟨by rw [i24]; exact c1, by rw [i26]; exact c2, by rw [i25]; exact c3⟩, by unfold LTE at *; rw [i37]; exact l1, ⟨by rw [i13]; exact k1, by rw [a9]; exact k2, fun k h1 h2 => by rw [a9]; exact k3 k h1 h2, k4⟩, ⟨r1, r2, r3, by rw [e22]; exact r4, by rw [e22]; exact r5, by rw [i21]; exact r6, by rw [i21]; exact r7, r9.kp ep rfl, r10, r11.kd e42 e43 e44 e45 eb⟩⟩
theorem ENW.kq {d : Int32} {S : CS} {s u : RS} (h : ENW d S s) (e38 : u.i 38 = s.i 38) (e2 : u.i 2 = s.i 2) (e3 : u.i 3 = s.i 3) (e18 : u.i 18 = s.i 18) (e53 : u.i 53 = s.i 53) (e54 : u.i 54 = s.i 54) (e55 : u.i 55 = s.i 55) (a1 : u.a 1 = s.a 1) (a4 : u.a 4 = s.a 4) (a41 : u.a 41 = s.a 41) (b9 : u.b 9 = s.b 9) (b39 : u.b 39 = s.b 39) (e10 : u.i 10 = s.i 10) (e11 : u.i 11 = s.i 11) (e12 : u.i 12 = s.i 12) (e14 : u.i 14 = s.i 14) (e15 : u.i 15 = s.i 15) (e17 : u.i 17 = s.i 17) (e19 : u.i 19 = s.i 19) (el : u.l = s.l) (h20 : 0 ≤ (u.i 20).toInt ∧ 0 ≤ phI u) (hw : WPI u) : ENW d S u := by
  obtain ⟨⟨h1, h2, ⟨t1, t2, t3, t4⟩, ⟨k1, k2, k3, k4, k5, k6⟩, h5, h6, h7, h8⟩, ⟨n1, n2, n3, n4⟩, ⟨o1, o2, o3⟩, ⟨c1, c2, c3⟩, l1, ⟨m1, m2, m3, m4, m5⟩, ⟨r1, r2, r3, r4, r5, r6, r7, r9, r10, r11⟩⟩ := h
  exact ⟨⟨h1, by rw [e15]; exact h2, ⟨by rw [e2]; exact t1, by rw [e2]; exact t2, fun k hk => by rw [e2] at hk; rw [a1]; exact t3 k hk, fun k hk => by rw [b9]; exact t4 k hk⟩, ⟨by rw [e11]; exact k1, by rw [e12]; exact k2, by rw [e10]; exact k3, k4, fun q => by rw [el]; exact k5 q, fun q => by rw [e14]; exact k6 q⟩, by rw [e12, e2]; exact h5, fun k hk => by rw [b9]; exact h6 k hk, h7, h8⟩, ⟨by rw [e38]; exact n1, by rw [e38, e11]; exact n2, fun k hk => by rw [e38] at hk; rw [b39, a41]; exact n3 k hk, fun j k hj hk => by rw [e38] at hk; rw [b39]; exact n4 j k hj hk⟩, ⟨by rw [e19]; exact o1, by rw [e19]; exact o2, by rw [e19]; exact o3⟩, ⟨by rw [e53]; exact c1, by rw [e55]; exact c2, by rw [e54]; exact c3⟩, by unfold LTE at *; rw [e18]; exact l1, ⟨by rw [e3]; exact m1, m2, fun k h1 h2 => by rw [e3] at h2; rw [a4]; exact m3 k h1 h2, by rw [e3]; exact m4, fun k h1 h2 => by rw [e3] at h2; rw [a4]; exact m5 k h1 h2⟩, ⟨h20.1, h20.2, by rw [e17, e11]; exact r3, r4, by rw [e11]; exact r5, r6, by rw [e11]; exact r7, r9.rs e11, hw, r11⟩⟩
theorem ENW.wp {d : Int32} {S : CS} {s : RS} (h : ENW d S s) : WPI s := by
  obtain ⟨-, -, -, -, -, -, ⟨-, -, -, -, -, -, -, -, r10, -⟩⟩ := h
  exact r10
theorem ENW.sj {d : Int32} {S : CS} {s : RS} (h : ENW d S s) : SJB S s := by
  obtain ⟨-, -, -, -, -, -, ⟨-, -, -, -, -, -, -, r9, -, -⟩⟩ := h
  exact r9
theorem ENW.t21 {d : Int32} {S : CS} {s : RS} (h : ENW d S s) : 0 ≤ (S.i 21).toInt ∧ (S.i 21).toInt ≤ 3 * (s.i 11).toInt + 8 := by
  obtain ⟨-, -, -, -, -, -, ⟨-, -, -, -, -, r6, r7, -, -, -⟩⟩ := h
  exact ⟨r6, r7⟩
theorem i20_hw {d : Int32} {S : CS} {s : RS} (h : ENW d S s) : (0 ≤ (s.i 20).toInt ∧ (s.i 20).toInt < 3000) ∧ 0 ≤ (s.i 11).toInt ∧ (s.i 11).toInt ≤ 900 := by
  have r1 := h.2.2.2.2.2.2.1
  have r2 := h.2.2.2.2.2.2.2.1
  have r3 := h.2.2.2.2.2.2.2.2.1
  have b5 := h.1.2.2.2.2.1
  have b3 := h.1.2.2.1.2.1
  have lc := h.1.2.2.2.2.2.2.1.2.1
  have k11 := h.1.2.2.2.1.1
  have k12 := h.1.2.2.2.1.2.1
  rw [k11, k12] at lc
  unfold phI at r2
  omega
theorem ENW.em {N : Nat} {d : Int32} {S : CS} {s : RS} {o x : Int32} {V : Int32 × RS} (h : ENW d S s) (hp : 1 ≤ phI s) (g : f_X12_emit N s o x = some V) : ENW d S V.2 ∧ TBK s V.2 ∧ qj2 V.2 = qj2 s ∧ phI V.2 = phI s - 1 ∧ V.1 = s.i 20 ∧ (V.2.i 20).toInt = (s.i 20).toInt + 1 := by
  obtain ⟨k1, k2⟩ := kq_emit g
  obtain ⟨e1, e2, e3⟩ := k2 (i20_hw h).1
  obtain ⟨kq, y10, y11, y12, y14, y15, y16, y17, y19, yl⟩ := qj2_eq k1
  obtain ⟨i2, i3, i8, i18, i24, i29, i33, i38, i42, i43, i52, i53, i54, i55, i56, i59, i63, i75, a1, a4, a25, a26, a27, a28, a30, a34, a37, a40, a41, a44, a46, a47, a48, a49, a50, a51, a57, a58, a60, a61, a62, a64, a65, a66, a67, a68, a69, a70, a71, a72, a73, b9, b39, b45, b74⟩ := qj_eq kq
  have ph : phI V.2 = phI s - 1 := by
    unfold phI
    rw [y17, e2]
    omega
  have h20 := (i20_hw h).1
  exact ⟨h.kq i38 i2 i3 i18 i53 i54 i55 a1 a4 a41 b9 b39 y10 y11 y12 y14 y15 y17 y19 yl ⟨by omega, by omega⟩ (h.wp.kp kq), TBK.of kq (by omega) e3, k1, ph, e1, e2⟩
theorem ENW.sg {d : Int32} {S : CS} {s : RS} {v w : Int32} (h : ENW d S s) (hvw : v = w) (h0 : 0 ≤ w.toInt) (h9 : w.toInt ≤ 20) : ENW d (CS.setI S 34 v) (RS.setI s 19 w) := by
  obtain ⟨⟨h1, h2, h3, h4, h5, h6, h7, h8⟩, n, -, c, l, k, r⟩ := h
  exact ⟨⟨h1, h2, h3, h4, h5, h6, h7, h8⟩, n, ⟨hvw, h0, h9⟩, c, l, k, r⟩
/-- a sign that opens -/
theorem w_open {N : Nat} (hN : 1000 ≤ N) {dl : Int32} {S : CS} {s : RS} {R : Unit × CS} {V : Int32 × RS} {c d : Int32} (h : ENW dl S s) (hc : tyR c) (hd : tm c = d) (h6 : ¬ d = 6) (h0 : ¬ c = 0) (e : f_X1_open N S c = some R) (g : f_X12_open N s d = some V) : (V.1 = 0 ∧ ¬ R.2.i 32 = 0 ∧ ¬ V.2.i 15 = 0) ∨ (V.1 = 1 ∧ S.i 43 = c ∧ ENW dl R.2 V.2 ∧ qj V.2 = qj s ∧ pj R.2 = pj S ∧ V.2.i 17 = s.i 17 + 1 ∧ (s.i 11).toInt + 1 ≤ (V.2.i 11).toInt ∧ V.2.i 20 = s.i 20 ∧ V.2.a 22 = s.a 22 ∧ R.2.i 22 = S.i 22 ∧ A18 S R.2 ∧ (V.2.i 19).toInt = (s.i 19).toInt + 1 ∧ ((V.2.i 17).toInt = (s.i 17).toInt + 1 ∧ eI S ≤ eI R.2)) := by
  have is := h.1.2.2.2.1.is hc hd
  have h15 := h.1.2.1
  have ho := h.2.2.1
  have e20 : (20 : Int32).toInt = 20 := by decide
  have s19 : (s.i 19 + 1).toInt = (s.i 19).toInt + 1 := ad1 ho.2.1 (by omega)
  unfold f_X1_open at e
  unfold f_X12_open f_X12_open_27 f_X12_open_38 f_X12_opens f_X12_opens_29 at g
  rw [if_pos h15] at g
  by_cases k : S.i 43 = c
  · have k' := is.mp k
    rw [e_fnd1 k, ob_some, if_neg n10] at e
    rw [if_pos k', y_can1 h15 (by rw [k']; exact h6), ob_some, if_neg n10] at g
    by_cases o : (s.i 19).toInt < 20
    · have c1 : S.i 34 < 20 := by rw [ho.1, Int32.lt_iff_toInt_lt]; omega
      have c2 : s.i 19 + 1 ≤ 20 := by rw [Int32.le_iff_toInt_le]; omega
      have c3 : (RS.setI s 19 (s.i 19 + 1)).i 15 = 0 := h15
      have e2 : (f_X9_advance N (CS.setI S 34 (S.i 34 + 1))).bind (fun p7 => some ((), p7.2)) = some R := (if_pos c1).symm.trans e
      rw [if_pos c2, if_pos c3, ob_some, if_neg n10] at g
      obtain ⟨p, ep, e2⟩ := hf_bind e2
      obtain ⟨q, gq, g⟩ := hf_bind g
      have hv : ENW dl (CS.setI S 34 (S.i 34 + 1)) (RS.setI s 19 (s.i 19 + 1)) := h.sg (by rw [ho.1]) (by omega) (by omega)
      have nz : ¬ (CS.setI S 34 (S.i 34 + 1)).i 43 = 0 := fun z => h0 (k.symm.trans z)
      obtain ⟨a1, a2, a3, a4, a5, a6, a7, a8, a9, a10, a11, a12⟩ := hv.adv hN nz ep gq
      rw [if_pos a1.1.2.1] at g
      cases e2
      cases g
      have gn := ((ADV.gain hv.1.2.2.2.2.2.2.1 a11).2.1 nz).2
      exact Or.inr ⟨rfl, k, a1, a2, a3, a4, a5, a6, a7, a8, a9, by rw [a10]; exact s19, a12, gn⟩
    · have c1 : ¬ S.i 34 < 20 := fun z => by
        have := lt_int z
        rw [ho.1] at this
        omega
      have c2 : ¬ s.i 19 + 1 ≤ 20 := fun z => by
        have := le_int z
        omega
      have e2 : (f_X1_fail N S 6 (S.i 44)).bind (fun p11 => some ((), p11.2)) = some R := (if_neg c1).symm.trans e
      obtain ⟨p, ep, e2⟩ := hf_bind e2
      cases e2
      rw [if_neg c2, e_fail, ob_some] at g
      have c3 : (RS.setI s 19 (s.i 19 + 1)).i 15 = 0 := h15
      rw [if_pos c3] at g
      have c4 : ¬ ((RS.setI (RS.setI s 19 (s.i 19 + 1)) 15 6).setI 16 (s.i 11)).i 15 = 0 := by
        show ¬ (6 : Int32) = 0
        decide
      rw [if_neg c4, ob_some, if_pos rfl, if_neg c4] at g
      cases g
      exact Or.inl ⟨rfl, y_fail (by decide) ep, c4⟩
  · have k' : ¬ s.i 10 = d := fun q => k (is.mpr q)
    rw [e_fnd0 k, ob_some, if_pos rfl] at e
    rw [if_neg k'] at g
    obtain ⟨p, ep, e⟩ := hf_bind e
    obtain ⟨q, gq, g⟩ := hf_bind g
    obtain ⟨q1, q2⟩ := y_can0 gq
    rw [if_pos q1, if_neg q2] at g
    cases e
    cases g
    exact Or.inl ⟨rfl, y_misp ep, q2⟩
