/-! both readers: a name is told in the one before, in the other behind a sign -/
def SEZ (s s' : RS) : Prop := (∀ k : Nat, k ≠ 38 → k ≠ 42 → s'.i k = s.i k) ∧ (∀ k : Nat, k ≠ 40 → k ≠ 41 → s'.a k = s.a k) ∧ (∀ k : Nat, k ≠ 39 → s'.b k = s.b k) ∧ s'.l = s.l
/-- u, but what s says of the names -/
def uns (u s : RS) : RS := (va_up (va_up u.i 38 (s.i 38)) 42 (s.i 42), u.l, va_up (va_up u.a 40 (s.a 40)) 41 (s.a 41), va_up u.b 39 (s.b 39))
theorem uns.z {u s : RS} : SEZ u (uns u s) := ⟨fun _ h1 h2 => (if_neg h2).trans (if_neg h1), fun _ h1 h2 => (if_neg h2).trans (if_neg h1), fun _ h => if_neg h, rfl⟩
theorem uns.n {u s : RS} : (uns u s).i 38 = s.i 38 ∧ (uns u s).a 41 = s.a 41 ∧ (uns u s).b 39 = s.b 39 ∧ (uns u s).a 40 = s.a 40 := by
  exact ⟨rfl, rfl, rfl, rfl⟩
theorem BT.sez {S : CS} {s s' : RS} (h : BT S s) (z : SEZ s s') : BT S s' := by
  obtain ⟨zi, za, zb, zl⟩ := z
  obtain ⟨h1, h2, ⟨t1, t2, t3, t4⟩, ⟨k1, k2, k3, k4, k5, k6⟩, h5, h6, h7, h8⟩ := h
  have e2 := zi 2 (by decide) (by decide)
  have e10 := zi 10 (by decide) (by decide)
  have e11 := zi 11 (by decide) (by decide)
  have e12 := zi 12 (by decide) (by decide)
  have e14 := zi 14 (by decide) (by decide)
  have e15 := zi 15 (by decide) (by decide)
  have a1 := za 1 (by decide) (by decide)
  have b9 := zb 9 (by decide)
  exact ⟨h1, by rw [e15]; exact h2, ⟨by rw [e2]; exact t1, by rw [e2]; exact t2, fun k hk => by rw [e2] at hk; rw [a1]; exact t3 k hk, fun k hk => by rw [b9]; exact t4 k hk⟩, ⟨by rw [e11]; exact k1, by rw [e12]; exact k2, by rw [e10]; exact k3, k4, fun q => by rw [zl]; exact k5 q, fun q => by rw [e14]; exact k6 q⟩, by rw [e12, e2]; exact h5, fun k hk => by rw [b9]; exact h6 k hk, h7, h8⟩
theorem ENV.adv2 {N : Nat} (hN : 1000 ≤ N) {d : Int32} {S : CS} {s s' : RS} {R : Unit × CS} {u : RS} (h : ENV d S s) (sz : SEZ s s') (hz : ¬ S.i 43 = 0) (e : f_X9_advance N S = some R) (g : f_X12_next N s' = some u) : ENV d R.2 (uns u s) ∧ qj u = qj s' ∧ pj R.2 = pj S ∧ u.i 17 = s.i 17 + 1 ∧ (s.i 11).toInt + 1 ≤ (u.i 11).toInt ∧ u.i 20 = s.i 20 ∧ u.a 22 = s.a 22 ∧ R.2.i 22 = S.i 22 ∧ A18 S R.2 ∧ u.i 19 = s.i 19 := by
  have hb := h.1.sez sz
  obtain ⟨b, a, tu, b9⟩ := y_adv hN hb e g
  have q1 := krq_f_X12_next N s' u g
  have q2 := kc_X9_advance N S R e
  obtain ⟨zi, za, zb, zl⟩ := sz
  have vz := uns.z (u := u) (s := s)
  have vn := uns.n (u := u) (s := s)
  have bv := b.sez vz
  obtain ⟨v, hv⟩ : ∃ v, v = uns u s := ⟨_, rfl⟩
  rw [← hv] at vz vn bv ⊢
  clear hv
  obtain ⟨vi, va, vb, vl⟩ := vz
  obtain ⟨v38, v41, v39, -⟩ := vn
  obtain ⟨h1, ⟨n1, n2, n3, n4⟩, ⟨o1, o2, o3⟩, ⟨c1, c2, c3⟩, l1, ⟨m1, m2, m3, m4, m5⟩, ⟨r1, r2, r3, r4, r5, r6, r7, r8, r9, r10, r11⟩⟩ := h
  have e17 : u.i 17 = s.i 17 + 1 := (tu.1 17 (by decide) (by decide) (by decide) (by decide)).trans (by
    show s'.i 17 + 1 = s.i 17 + 1
    rw [zi 17 (by decide) (by decide)])
  have e19 : u.i 19 = s.i 19 := (tu.1 19 (by decide) (by decide) (by decide) (by decide)).trans (zi 19 (by decide) (by decide))
  have e20 : u.i 20 = s.i 20 := (tu.1 20 (by decide) (by decide) (by decide) (by decide)).trans (zi 20 (by decide) (by decide))
  have a22 : u.a 22 = s.a 22 := by
    rw [tu.2.1]
    exact za 22 (by decide) (by decide)
  have c34 : R.2.i 34 = S.i 34 := a.1.2 34 (by decide) (by decide) (by decide) (by decide)
  have c22 : R.2.i 22 = S.i 22 := a.1.2 22 (by decide) (by decide) (by decide) (by decide)
  have c18' : R.2.a 18 = S.a 18 := by rw [a.1.1.2.2.2.2.2.2.2.2.2.2]
  obtain ⟨-, -, -, -, i13, -, i24, i25, i26, -, -, i37, -, i50, -, -, -, -, -, a9, -, a49, -, er, eo, eol, eb, i21, ehk⟩ := pj_eq q2
  obtain ⟨j2, j3, -, j18, -, j29, -, -, -, j43, -, j53, j54, j55, j56, j59, -, -, -, x4, -, -, -, -, -, -, -, -, -, -, -, -, -, -, -, -, -, x58, -, -, x62, -⟩ := qj_eq q1
  have w3 : v.i 3 = s.i 3 := (vi 3 (by decide) (by decide)).trans (j3.trans (zi 3 (by decide) (by decide)))
  have w18 : v.i 18 = s.i 18 := (vi 18 (by decide) (by decide)).trans (j18.trans (zi 18 (by decide) (by decide)))
  have w53 : v.i 53 = s.i 53 := (vi 53 (by decide) (by decide)).trans (j53.trans (zi 53 (by decide) (by decide)))
  have w54 : v.i 54 = s.i 54 := (vi 54 (by decide) (by decide)).trans (j54.trans (zi 54 (by decide) (by decide)))
  have w55 : v.i 55 = s.i 55 := (vi 55 (by decide) (by decide)).trans (j55.trans (zi 55 (by decide) (by decide)))
  have w43 : v.i 43 = s.i 43 := (vi 43 (by decide) (by decide)).trans (j43.trans (zi 43 (by decide) (by decide)))
  have w56 : v.i 56 = s.i 56 := (vi 56 (by decide) (by decide)).trans (j56.trans (zi 56 (by decide) (by decide)))
  have w59 : v.i 59 = s.i 59 := (vi 59 (by decide) (by decide)).trans (j59.trans (zi 59 (by decide) (by decide)))
  have w29 : v.i 29 = s.i 29 := (vi 29 (by decide) (by decide)).trans (j29.trans (zi 29 (by decide) (by decide)))
  have w4 : v.a 4 = s.a 4 := (va 4 (by decide) (by decide)).trans (x4.trans (za 4 (by decide) (by decide)))
  have w58 : v.a 58 = s.a 58 := (va 58 (by decide) (by decide)).trans (x58.trans (za 58 (by decide) (by decide)))
  have w62 : v.a 62 = s.a 62 := (va 62 (by decide) (by decide)).trans (x62.trans (za 62 (by decide) (by decide)))
  have w11 : v.i 11 = u.i 11 := vi 11 (by decide) (by decide)
  have w17 : v.i 17 = s.i 17 + 1 := (vi 17 (by decide) (by decide)).trans e17
  have w19 : v.i 19 = s.i 19 := (vi 19 (by decide) (by decide)).trans e19
  have w20 : v.i 20 = s.i 20 := (vi 20 (by decide) (by decide)).trans e20
  have k12 := h1.2.2.2.1.2.1
  have k11 := h1.2.2.2.1.1
  have lc := h1.2.2.2.2.2.2.1.2.2.2.1 hz
  rw [k11, k12] at lc
  rw [zi 12 (by decide) (by decide)] at b9
  have f1 : (s.i 11).toInt + 1 ≤ (u.i 11).toInt := by omega
  have c18 : A18 S R.2 := ⟨c18', by rw [k11, b.2.2.2.1.1]; omega⟩
  have t17 : (s.i 17 + 1).toInt = (s.i 17).toInt + 1 := by
    have := h1.2.2.2.2.1
    have := h1.2.2.1.2.1
    have e1 : (1 : Int32).toInt = 1 := by decide
    unfold phI at r2
    rw [toInt_add] <;> rw [e1] <;> omega
  refine ⟨⟨bv, ⟨by rw [i50, v38]; exact n1, by rw [v38, w11]; omega, fun k hk => by rw [v38] at hk; rw [eb, a49, v39, v41]; exact n3 k hk, fun j k hj hk => by rw [v38] at hk; rw [v39]; exact n4 j k hj hk⟩, ⟨by rw [c34, w19]; exact o1, by rw [w19]; exact o2, by rw [w19]; exact o3⟩, ⟨by rw [i24, w53]; exact c1, by rw [i26, w55]; exact c2, by rw [i25, w54]; exact c3⟩, by unfold LTE at *; rw [i37, w18]; exact l1, ⟨by rw [i13, w3]; exact m1, by rw [a9]; exact m2, fun k h1 h2 => by rw [w3] at h2; rw [a9, w4]; exact m3 k h1 h2, by rw [w3]; exact m4, fun k h1 h2 => by rw [w3] at h2; rw [w4]; exact m5 k h1 h2⟩, ⟨by rw [w20]; exact r1, by unfold phI at *; rw [w20, w17, t17]; omega, by rw [w17, t17, w11]; omega, by rw [c22]; exact r4, by rw [c22, w11]; omega, by rw [i21]; exact r6, by rw [i21, w11]; omega, r8.kp q2 (by unfold sgI; rw [c34]; exact Int.le_refl _) ((ADV.gain h1.2.2.2.2.2.2.1 a).2.1 hz).2, (r9.kp q2 rfl).up (by rw [w11]; omega), r10.of (by rw [w43]; exact Int.le_refl _) w56 w59 w29 w58 w62, r11.adv hN h1.2.2.2.2.2.2.1 h1.2.2.2.2.2.2.2 eb e⟩⟩, q1, q2, e17, f1, e20, a22, c22, c18, e19⟩
/-- the sign closes, the name is told: in the class in this order, in the reference in the other -/
theorem ro_shut {N : Nat} (hN : 1000 ≤ N) {d d0 : Int32} {T : Nat} {p f k y z : Int} {S P D : CS} {s u : RS} {l : Int64} {C : Unit × CS} {w : Int32 × CS} {v V : Int32 × RS} (h : WAY (d + 1) T p f k y z S s P u) (hs : ENV d0 S s) (hk : 1 ≤ k) (hp : 8 ≤ p) (h8 : 8 * ((s.i 38).toInt - 2) ≤ (s.i 11).toInt) (hn : ∀ k : Nat, (k : Int) < (u.i 38).toInt → ¬ u.b 39 k = l) (e1 : f_X1_close N P 41 = some C) (hD : pj2 D = pj2 C.2) (e2 : f_X7_tell N D l = some w) (g1 : f_X12_see N u l 0 = some v) (g2 : f_X12_shut N v.2 41 = some V) : (V.1 = 0 ∧ ¬ C.2.i 32 = 0 ∧ ¬ V.2.i 15 = 0) ∨ (V.1 = 1 ∧ WAZ d T (p + 1) (f + 3) (k - 1) (y - 2) (z + 1) S s w.2 V.2 ∧ (∀ r : Nat, FRB r u V.2) ∧ V.2.i 20 = u.i 20 ∧ ((u.i 11).toInt + 1 ≤ (V.2.i 11).toInt ∧ C.2.i 44 = V.2.i 11 ∧ V.2.i 38 = v.2.i 38 ∧ V.2.a 40 = v.2.a 40)) := by
  have sg := h.sg hs
  obtain ⟨gz, gs1, gsi, gsa, gsb, gsl, gsr⟩ := y_see g1
  have sz : SEZ u v.2 := ⟨gsi, gsa, gsb, gsl⟩
  have is := h.1.1.2.2.2.1.is (c := 41) (d := 41) (Or.inl ⟨by decide, by decide⟩) (by decide)
  have hb := h.1.1.sez sz
  have h15 := hb.2.1
  have ho := h.1.2.2.1
  have e1' : (1 : Int32).toInt = 1 := by decide
  unfold f_X12_shut f_X12_shut_18 f_X12_need f_X12_need_27 f_X12_need_31 at g2
  rw [if_pos h15] at g2
  have v10 : v.2.i 10 = u.i 10 := gsi 10 (by decide) (by decide)
  by_cases kk : P.i 43 = 41
  · have k' : v.2.i 10 = 41 := v10.trans (is.mp kk)
    unfold f_X1_close f_X1_close_22 at e1
    rw [e_fnd1 kk, ob_some, if_neg n10] at e1
    rw [if_pos k', y_can1 h15 (by rw [k']; decide), ob_some, if_neg n10] at g2
    obtain ⟨pp, ep, e1⟩ := hf_bind e1
    obtain ⟨w2, gw, g2⟩ := hf_bind g2
    obtain ⟨q, gq, gw⟩ := hf_bind gw
    obtain ⟨a1, a2, a3, a4, a5, a6, a7, a8, a9, a10⟩ := h.1.adv2 hN sz (by rw [kk]; decide) ep gq
    have q15 : q.i 15 = 0 := by
      have z1 := a1.1.2.1
      rw [(uns.z (u := q) (s := u)).1 15 (by decide) (by decide)] at z1
      exact z1
    rw [if_pos q15] at gw
    cases gw
    have g3 : (if (RS.setI q 19 (q.i 19 - 1)).i 15 = 0 then some ((1 : Int32), RS.setI q 19 (q.i 19 - 1)) else some (0, RS.setI q 19 (q.i 19 - 1))) = some V := (if_neg n10).symm.trans g2
    rw [if_pos (show (RS.setI q 19 (q.i 19 - 1)).i 15 = 0 from q15)] at g3
    cases e1
    cases g3
    have sg0 : 1 ≤ (u.i 19).toInt := by
      have := (BAS (s := P) (cnI P).toNat).2.2.2.1
      unfold sgI at sg
      rw [ho.1] at sg
      omega
    have s19 : (q.i 19 - 1).toInt = (u.i 19).toInt - 1 := by
      rw [a10, toInt_sub] <;> rw [e1'] <;> omega
    have o2 := a1.2.2.1
    have u19 : (uns q u).i 19 = q.i 19 := uns.z.1 19 (by decide) (by decide)
    have ck1 := CKX.of a3 a8 a9
    have ev1 : ENV (d + 1) (CS.setI pp.2 34 (pp.2.i 34 - 1)) (RS.setI (uns q u) 19 (q.i 19 - 1)) := a1.sg (by rw [o2.1, u19]) (by omega) (by omega) (by
      rw [(ck1.sum h.1.ri).1, o2.1, u19, s19]
      unfold sgI at sg
      rw [ho.1] at sg
      omega)
    have ev2 := ev1.kd hD
    -- the names
    obtain ⟨u2, hu2⟩ : ∃ y, y = RS.setI (uns q u) 19 (q.i 19 - 1) := ⟨_, rfl⟩
    have u2i : ∀ k : Nat, k ≠ 38 → k ≠ 42 → k ≠ 19 → u2.i k = q.i k := fun k h1 h2 h3 => by
      rw [hu2]
      exact (show (RS.setI (uns q u) 19 (q.i 19 - 1)).i k = (uns q u).i k from if_neg h3).trans (uns.z.1 k h1 h2)
    have u2n : u2.i 38 = u.i 38 ∧ u2.a 41 = u.a 41 ∧ u2.b 39 = u.b 39 := by
      rw [hu2]
      exact ⟨(uns.n (u := q) (s := u)).1, (uns.n (u := q) (s := u)).2.1, (uns.n (u := q) (s := u)).2.2.1⟩
    have u2a : ∀ k : Nat, k ≠ 40 → k ≠ 41 → u2.a k = q.a k := by
      rw [hu2]
      exact fun k h1 h2 => uns.z.2.1 k h1 h2
    have u2b : ∀ k : Nat, k ≠ 39 → u2.b k = q.b k := by
      rw [hu2]
      exact fun k h1 => uns.z.2.2.1 k h1
    have u2l : u2.l = q.l := by rw [hu2]; rfl
    have u219 : u2.i 19 = q.i 19 - 1 := by
      rw [hu2]
      rfl
    rw [← hu2] at ev2
    clear hu2
    have hse : ∃ z2 : Int32 × RS, f_X12_see N u2 l 0 = some z2 ∧ z2.2.i 38 = u.i 38 + 1 ∧ z2.2.b 39 = vp_updL (u.b 39) (u.i 38).toNatClampNeg l ∧ z2.2.a 41 = upd (u.a 41) (u.i 38).toNatClampNeg (vp_nar .boolean 0) ∧ (∀ k : Nat, k ≠ 38 → k ≠ 42 → z2.2.i k = u2.i k) ∧ (∀ k : Nat, k ≠ 40 → k ≠ 41 → z2.2.a k = u2.a k) ∧ (∀ k : Nat, k ≠ 39 → z2.2.b k = u2.b k) ∧ z2.2.l = u2.l := by
      have ib0 : ib (u2.i 38) 460 := by rw [u2n.1]; exact gz
      refine ⟨_, (show f_X12_see N u2 l 0 = some _ from if_pos ib0), ?_, ?_, ?_, fun k h1 h2 => (if_neg h2).trans (if_neg h1), fun k h1 h2 => (if_neg h2).trans (if_neg h1), fun k h => if_neg h, rfl⟩
      · show u2.i 38 + 1 = u.i 38 + 1
        rw [u2n.1]
      · show vp_updL (u2.b 39) (u2.i 38).toNatClampNeg l = _
        rw [u2n.1, u2n.2.2]
      · show upd (u2.a 41) (u2.i 38).toNatClampNeg (vp_nar .boolean 0) = _
        rw [u2n.1, u2n.2.1]
    obtain ⟨z2, hz2, z38, zb39, za41, zi, za, zb, zl⟩ := hse
    obtain ⟨h1, h2, h3, h4, h5, ⟨i1, i2, i3, i4, i5⟩, ⟨n1, n2, n3, n4⟩, ⟨r1, r2, r3⟩⟩ := h
    obtain ⟨t1, t2, t3, t4, t5, t6, t7, t8, t9, t10⟩ := h4.1.1
    have q11 : u2.i 11 = q.i 11 := u2i 11 (by decide) (by decide) (by decide)
    obtain ⟨y1, y2, y3, y4, y5, y6⟩ := y_tell ev2 (by rw [u2n.1, t4, q11]; omega) (fun k hk => by rw [u2n.1] at hk; rw [u2n.2.2]; exact hn k hk) e2 hz2
    -- the reference's own state
    obtain ⟨x2, x3, x8, x18, x24, x29, x33, x38, x42, x43, x52, x53, x54, x55, x56, x59, x63, x75, xa1, xa4, xa25, xa26, xa27, xa28, xa30, xa34, xa37, xa40, xa41, xa44, xa46, xa47, xa48, xa49, xa50, xa51, xa57, xa58, xa60, xa61, xa62, xa64, xa65, xa66, xa67, xa68, xa69, xa70, xa71, xa72, xa73, xb9, xb39, xb45, xb74⟩ := qj_eq a2
    have vse : v.2.b 39 = vp_updL (u.b 39) (u.i 38).toNatClampNeg l ∧ v.2.a 41 = upd (u.a 41) (u.i 38).toNatClampNeg (vp_nar .boolean 0) := by
      unfold f_X12_see at g1
      obtain ⟨-, g1⟩ := hf_ite g1
      cases g1
      exact ⟨rfl, rfl⟩
    obtain ⟨Y, hY⟩ : ∃ Y, Y = RS.setI q 19 (q.i 19 - 1) := ⟨_, rfl⟩
    have Yi : ∀ k : Nat, k ≠ 19 → Y.i k = q.i k := by
      rw [hY]
      exact fun k h => if_neg h
    have Y19 : Y.i 19 = q.i 19 - 1 := by
      rw [hY]
      rfl
    have Ya : Y.a = q.a := by rw [hY]; rfl
    have Yb : Y.b = q.b := by rw [hY]; rfl
    have Yl : Y.l = q.l := by rw [hY]; rfl
    show _ ∨ ((1 : Int32) = 1 ∧ WAZ d T (p + 1) (f + 3) (k - 1) (y - 2) (z + 1) S s w.2 (RS.setI q 19 (q.i 19 - 1)) ∧ (∀ r : Nat, FRB r u (RS.setI q 19 (q.i 19 - 1))) ∧ (RS.setI q 19 (q.i 19 - 1)).i 20 = u.i 20 ∧ ((u.i 11).toInt + 1 ≤ ((RS.setI q 19 (q.i 19 - 1)).i 11).toInt ∧ pp.2.i 44 = (RS.setI q 19 (q.i 19 - 1)).i 11 ∧ (RS.setI q 19 (q.i 19 - 1)).i 38 = v.2.i 38 ∧ (RS.setI q 19 (q.i 19 - 1)).a 40 = v.2.a 40))
    rw [← hY]
    clear hY
    have zY : ∀ k : Nat, k ≠ 38 → k ≠ 42 → k ≠ 19 → Y.i k = z2.2.i k := fun k h1 h2 h3 => (Yi k h3).trans ((u2i k h1 h2 h3).symm.trans (zi k h1 h2).symm)
    have aY : ∀ k : Nat, k ≠ 40 → k ≠ 41 → Y.a k = z2.2.a k := fun k h1 h2 => by
      rw [Ya, za k h1 h2, u2a k h1 h2]
    have bY : ∀ k : Nat, k ≠ 39 → Y.b k = z2.2.b k := fun k h1 => by
      rw [Yb, zb k h1, u2b k h1]
    have evY : ENV d w.2 Y := by
      refine y1.kq ?_ (zY 2 (by decide) (by decide) (by decide)) (zY 3 (by decide) (by decide) (by decide)) (zY 18 (by decide) (by decide) (by decide)) (zY 53 (by decide) (by decide) (by decide)) (zY 54 (by decide) (by decide) (by decide)) (zY 55 (by decide) (by decide) (by decide)) (aY 1 (by decide) (by decide)) (aY 4 (by decide) (by decide)) ?_ (bY 9 (by decide)) ?_ (zY 10 (by decide) (by decide) (by decide)) (zY 11 (by decide) (by decide) (by decide)) (zY 12 (by decide) (by decide) (by decide)) (zY 14 (by decide) (by decide) (by decide)) (zY 15 (by decide) (by decide) (by decide)) (zY 17 (by decide) (by decide) (by decide)) ?_ ?_ ?_ ?_
      · rw [Yi 38 (by decide), x38, gs1, z38]
      · rw [Ya, xa41, vse.2, za41]
      · rw [Yb, xb39, vse.1, zb39]
      · rw [Y19, zi 19 (by decide) (by decide), u219]
      · rw [Yl, zl, u2l]
      · have p1 : phI Y = phI z2.2 := by
          unfold phI
          rw [zY 17 (by decide) (by decide) (by decide), zY 20 (by decide) (by decide) (by decide)]
        rw [zY 20 (by decide) (by decide) (by decide), p1]
        exact ⟨y1.2.2.2.2.2.2.1, y1.2.2.2.2.2.2.2.1⟩
      · exact y1.wp.of (by rw [zY 43 (by decide) (by decide) (by decide)]; exact Int.le_refl _) (zY 56 (by decide) (by decide) (by decide)) (zY 59 (by decide) (by decide) (by decide)) (zY 29 (by decide) (by decide) (by decide)) (aY 58 (by decide) (by decide)) (aY 62 (by decide) (by decide))
    obtain ⟨b1, b2, ⟨m1, m2, m3, m4, m5, m6, m7, m8, m9⟩, b4, b5, b6⟩ := see_tbr g1
    have tb2 : TBZ v.2 q := TBZ.of a2
    have qY : TBR q Y := by
      unfold TBR
      rw [Ya, Yb, Yi 59 (by decide), Yi 29 (by decide), Yi 33 (by decide), Yi 24 (by decide)]
      exact ⟨fun _ _ => ⟨rfl, rfl, rfl⟩, fun _ _ => ⟨rfl, rfl, rfl, rfl, rfl, rfl, rfl, rfl⟩, fun _ _ => ⟨rfl, rfl⟩, ⟨Int.le_refl _, fun j k1 k2 => by omega⟩, fun _ _ => ⟨rfl, rfl, rfl⟩, Int.le_refl _, fun _ _ => rfl, Int.le_refl _, fun _ _ => ⟨rfl, rfl⟩, Int.le_refl _, fun _ _ => ⟨rfl, rfl, rfl⟩⟩
    have frY : ∀ r : Nat, FRB r u Y := fun r j hj => by
      have z1 := b4 r j hj
      rw [Ya, Yb, xa64, xa65, xa66, xa67, xa68, xa69, xa70, xa71, xa72, xa73, xb74]
      exact z1
    have i20Y : Y.i 20 = u.i 20 := (Yi 20 (by decide)).trans a6
    have i11Y : Y.i 11 = q.i 11 := Yi 11 (by decide)
    have t17 : (u.i 17 + 1).toInt = (u.i 17).toInt + 1 := t17_up (N := N) h1
    have phY : phI Y = phI u + 3 := by
      unfold phI
      rw [i20Y, Yi 17 (by decide), a4, t17]
      omega
    have tY : tpI Y = (T : Int) := by
      show (Y.i 63).toInt = (T : Int)
      rw [Yi 63 (by decide), x63, gsi 63 (by decide) (by decide)]
      exact h2
    -- the class
    have kp := pj2_eq hD
    have ckC : CKX P pp.2 := ck1
    have ckD : CKX (CS.setI pp.2 34 (pp.2.i 34 - 1)) D := CKX.of kp.1 kp.2.2.2.2.1 kp.2.2.2.2.2.2.2.2.2.2.2
    have zP : CKZ P pp.2 := ckC.z
    have zD : CKZ pp.2 D := ckD.z
    have zW : CKZ D w.2 := y2.z
    have d38 : D.i 38 = pp.2.i 38 := ckD.1.2.2.1
    have d53 : D.i 53 = pp.2.i 53 := ckD.1.2.2.2.2.1
    have d56 : D.i 56 = pp.2.i 56 := ckD.1.2.2.2.2.2
    have d36 : D.i 36 = pp.2.i 36 := ckD.1.2.1
    have w38 : w.2.i 38 = D.i 38 := y2.1.2.2.1
    have w53 : w.2.i 53 = D.i 53 := y2.1.2.2.2.2.1
    have w56 : w.2.i 56 = D.i 56 := y2.1.2.2.2.2.2
    obtain ⟨⟨c1, c2, c3, c4, c5, c6⟩, -⟩ := id ckC
    have rt1 : RTE P pp.2 := ckC.2.2.2.2.2.2.2.2
    have rt2 : RTE pp.2 D := ckD.2.2.2.2.2.2.2.2
    have rt3 : RTE D w.2 := y2.2.2.2.2.2.2.2.2
    have e21 : pp.2.i 21 = P.i 21 := pj_21 a3
    have e54 : pp.2.i 54 = P.i 54 := pj_54 a3
    have kP := h1.1.2.2.2.1.1
    have kW := evY.1.2.2.2.1.1
    have kpp : pp.2.i 44 = q.i 11 := by
      have z1 := a1.1.2.2.2.1.1
      rw [uns.z.1 11 (by decide) (by decide)] at z1
      exact z1
    unfold RTE at rt1 rt2 rt3
    rw [kP] at rt1
    rw [kW, i11Y] at rt3
    rw [kpp] at rt1 rt2
    have e21D : D.i 21 = pp.2.i 21 := pj_21 kp.1
    have e54D : D.i 54 = pp.2.i 54 := pj_54 kp.1
    rw [e21] at e21D
    rw [e54] at e54D
    have D21 : (D.i 21).toInt = (P.i 21).toInt := by rw [e21D]
    have D54 : (D.i 54).toInt = (P.i 54).toInt := by rw [e54D]
    have eD44 : D.i 44 = q.i 11 := (kp.2.2.2.2.2.2.2.2.1).trans kpp
    rw [eD44] at rt2 rt3
    refine Or.inr ⟨rfl, ⟨evY, tY, h3.tr (frY T), ⟨((h4.1.r.tr b1 (by rw [t4]; exact Int.le_refl _) (by rw [t5]; exact Int.le_refl _) (by rw [t7]; exact Int.le_refl _)).tr tb2.r (by rw [b6, t4]; omega) (by rw [m4, t5]; exact Int.le_refl _) (by rw [m6, t7]; exact Int.le_refl _)).tr qY (by rw [x38, b6, t4]; omega) (by rw [x43, m4, t5]; exact Int.le_refl _) (by rw [x56, m6, t7]; exact Int.le_refl _), ⟨by rw [i20Y]; exact h4.2.1, fun j hj => by rw [Ya, a7]; exact h4.2.2 j hj⟩, ⟨?_, ?_, ?_, ?_, ?_, ?_, ?_, ?_, ?_⟩⟩, (h5.tr i3 zP).tr (c5.trans i3) (zD.tr d53 zW), ⟨w38.trans (d38.trans (c3.trans i1)), w53.trans (d53.trans (c5.trans i3)), w56.trans (d56.trans (c6.trans i4)), y6.trans (d36.trans (c2.trans i5))⟩, ⟨by rw [i11Y]; omega, by rw [phY]; omega, by rw [Yi 17 (by decide), a4, t17]; omega, by rw [Y19, s19]; omega⟩, ⟨by rw [i11Y]; omega, by rw [i11Y]; omega, by rw [i11Y]; omega⟩, ⟨by rw [Yi 38 (by decide), x38, b6, t4]; omega, fun _ => by rw [Yi 38 (by decide), x38, b6, t4, i11Y]; omega⟩⟩, frY, i20Y, by rw [i11Y]; exact a5, by rw [kpp, i11Y], by rw [Yi 38 (by decide)]; exact x38, by rw [Ya]; exact xa40⟩
    · rw [Yi 2 (by decide), x2, m1, t1]
    · rw [Yi 3 (by decide), x3, m2, t2]
    · rw [Yi 8 (by decide), x8, m3, t3]
    · rw [Yi 43 (by decide), x43, m4, t5]
    · rw [Yi 2 (by decide), x2, m5, t6]
    · rw [Yi 56 (by decide), x56, m6, t7]
    · rw [Ya, xa1, m7, t8]
    · rw [Ya, xa4, m8, t9]
    · rw [Yb, xb9, m9, t10]
  · have k' : ¬ v.2.i 10 = 41 := fun q => kk (is.mpr (v10.symm.trans q))
    rw [if_neg k'] at g2
    obtain ⟨w2, gw, g2⟩ := hf_bind g2
    obtain ⟨q, gq, gw⟩ := hf_bind gw
    obtain ⟨q1, q2⟩ := y_can0 gq
    rw [if_pos q1, if_neg q2] at gw
    cases gw
    have g3 : (if q.2.i 15 = 0 then some ((1 : Int32), q.2) else some (0, q.2)) = some V := (if_pos rfl).symm.trans g2
    rw [if_neg q2] at g3
    cases g3
    exact Or.inl ⟨rfl, y_cl0 kk e1, q2⟩
