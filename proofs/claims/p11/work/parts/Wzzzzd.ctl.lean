/-! both readers: the kinds of a catch; its name -/
theorem ct_loop {N : Nat} (hN : 1000 ≤ N) {d : Int32} {T a id : Nat} {Lk : List Nat} {S : CS} {s V : RS} {x1 x2 xb : Int32} {R : Unit × CS} {J0 J1 : CS → RS → Prop} (hk : ∀ (P R : CS) (q v : RS), J0 P q → KSP N T id a xb P R q v → J1 R v) (hs : ∀ (P R : CS) (q w : RS), J1 P q → SSP T P R q w → J0 R w) (hx1 : x1.toNatClampNeg = T) (hid : (s.a 66 T).toNatClampNeg = id) : ∀ (n m : Nat) (P : CS) (q : RS) (Lc : List Nat) (x3 : Int32), CTC a S P → CTR T id s q Lk Lc → ENW d P q → KMK q (P.o a 12) Lc → J1 P q → 0 ≤ x3.toInt → x3.toInt + 1 ≤ (q.i 11).toInt → f_X7_beginCatch_52 N n P a xb x3 = some R → ((q.i 10 = 124 ∧ ∃ w : RS, f_X12_next N q = some w ∧ f_X12_catching_18 N m w x1 x2 1 = some V) ∨ (¬ q.i 10 = 124 ∧ f_X12_catching_18 N m q x1 x2 0 = some V)) → (¬ R.2.i 32 = 0 ∧ ¬ V.i 15 = 0) ∨ ∃ (P' : CS) (q' : RS) (M : List Nat), ENW d P' q' ∧ CTC a S P' ∧ CTR T id s q' Lk (Lc ++ M) ∧ KMK q' (P'.o a 12) (Lc ++ M) ∧ ((q.i 11).toInt ≤ (q'.i 11).toInt ∧ phI q ≤ phI q' ∧ (q.i 17).toInt ≤ (q'.i 17).toInt ∧ q'.i 19 = q.i 19 ∧ J1 P' q') ∧ f_X7_beginCatch_80 N P' a xb = some R ∧ f_X12_catching_256 N q' x2 = some V
  | 0, _, _, _, _, _, _, _, _, _, _, _, _, e, _ => by cases e
  | n + 1, m, P, q, Lc, x3, hc, hr, ew, km, hj, h0, h1, e, g => by
    have e' : b_X7_beginCatch_52 N (f_X7_beginCatch_52 N n) P a xb x3 = some R := e
    unfold b_X7_beginCatch_52 at e'
    have q9 := (i20_hw ew).2.2
    have n9 : ¬ (900 : Int32) ≤ x3 := fun z => by
      have e9 : (900 : Int32).toInt = 900 := by decide
      have := le_int z
      omega
    rw [if_neg n9] at e'
    have is := ew.1.2.2.2.1.is (c := 124) (d := 124) (Or.inl ⟨by decide, by decide⟩) (by decide)
    unfold f_X1_skip f_X1_skip_17 at e'
    rcases g with ⟨k, w, hw, g⟩ | ⟨k, g⟩
    · have k' := is.mpr k
      rw [e_fnd1 k', ob_some, if_neg n10] at e'
      obtain ⟨p57, hp, e'⟩ := hf_bind e'
      obtain ⟨p7, h7, hp⟩ := hf_bind hp
      have hp' : some ((1 : Int32), p7.2) = some p57 := (if_pos (Or.inr rfl)).symm.trans hp
      cases hp'
      have e2 : ((f_X7_caughtKind N p7.2 a xb).bind fun p62 => f_X7_beginCatch_52 N n p62.2 a xb (x3 + 1)) = some R := (if_neg n10).symm.trans e'
      obtain ⟨p62, h62, e2⟩ := hf_bind e2
      obtain ⟨b1, b2, b3, b4, b5, b6, b7, b8, b9, b10, b11, b12⟩ := ew.adv hN (by rw [k']; decide) h7 hw
      have eo : p7.2.o = P.o := (pj_eq b3).2.2.2.2.2.2.2.2.2.2.2.2.2.2.2.2.2.2.2.2.2.2.2.2.1
      have kmw : KMK w (p7.2.o a 12) Lc := by
        unfold KMK at *
        rw [qj_a b2 34 (by decide), eo]
        exact km
      obtain ⟨m', rfl⟩ : ∃ m', m = m' + 1 := by
        cases m with
        | zero => cases g
        | succ m' => exact ⟨m', rfl⟩
      rcases ct_kind hN (hc.pj b3 b8 b9.1) (hr.qj b2 b6 b7) b1 kmw hx1 hid h62 g with ⟨f1, f2⟩ | ⟨v, j, c1, c2, c3, c4, ⟨c5, c6, c7, c8, ck⟩, c9⟩
      · exact Or.inl ⟨by rw [kF_X7_beginCatch_52 N n p62.2 a xb _ R e2 f1]; exact f1, f2⟩
      · have es : (x3 + 1).toInt = x3.toInt + 1 := ad1 h0 (by omega)
        have phw : phI q ≤ phI w := by
          unfold phI
          rw [b6, b12]
          omega
        have k44a := ew.1.2.2.2.1.1
        have k44b := b1.1.2.2.2.1.1
        have j0 : J0 p7.2 w := hs P p7.2 q w hj ⟨⟨ke_X9_advance N P p7 h7, b3⟩, ⟨kre_f_X12_next N q w hw, (FRB.of b2 : FRB (T + 1) q w).all 72 (by decide) (by decide), (qj_eq b2).2.2.2.2.2.2.2.1, qj_a b2 40 (by decide)⟩, by rw [k44a, k44b]; exact b5, b5⟩
        rcases ct_loop hN hk hs hx1 hid n m' p62.2 v (Lc ++ [j]) (x3 + 1) c2 c3 c1 c4 (hk p7.2 p62.2 w v j0 ck) (by omega) (by omega) e2 c9 with f | ⟨P', q', M, d1, d2, d3, d4, ⟨d5, d6, d7, d8, dj⟩, d9, d10⟩
        · exact Or.inl f
        · rw [List.append_assoc] at d3 d4
          exact Or.inr ⟨P', q', j :: M, d1, d2, d3, d4, ⟨by omega, by omega, by omega, d8.trans (c8.trans b10), dj⟩, d9, d10⟩
    · have k' : ¬ P.i 43 = 124 := fun z => k (is.mp z)
      rw [e_fnd0 k', ob_some, if_pos rfl] at e'
      obtain ⟨p57, hp, e'⟩ := hf_bind e'
      have hp' : some ((0 : Int32), P) = some p57 := (if_pos (Or.inl rfl)).symm.trans hp
      cases hp'
      have e2 : f_X7_beginCatch_80 N P a xb = some R := (if_pos rfl).symm.trans e'
      cases m with
      | zero => cases g
      | succ m' =>
        have g' : b_X12_catching_18 N (f_X12_catching_18 N m') q x1 x2 0 = some V := g
        unfold b_X12_catching_18 at g'
        rw [if_pos rfl] at g'
        exact Or.inr ⟨P, q, [], ew, hc, by rw [List.append_nil]; exact hr, by rw [List.append_nil]; exact km, ⟨Int.le_refl _, Int.le_refl _, Int.le_refl _, rfl, hj⟩, e2, g'⟩
/-- a sign that closes -/
theorem w_close {N : Nat} (hN : 1000 ≤ N) {dl : Int32} {S : CS} {s : RS} {R : Unit × CS} {V : Int32 × RS} (h : ENW dl S s) (hs : 1 ≤ (s.i 19).toInt) (e : f_X1_close N S 41 = some R) (g : f_X12_shut N s 41 = some V) : (V.1 = 0 ∧ ¬ R.2.i 32 = 0 ∧ ¬ V.2.i 15 = 0) ∨ (V.1 = 1 ∧ ENW dl R.2 V.2 ∧ qj V.2 = qj s ∧ pj R.2 = pj S ∧ (s.i 11).toInt + 1 ≤ (V.2.i 11).toInt ∧ V.2.i 20 = s.i 20 ∧ V.2.a 22 = s.a 22 ∧ R.2.i 22 = S.i 22 ∧ A18 S R.2 ∧ (V.2.i 19).toInt = (s.i 19).toInt - 1 ∧ (V.2.i 17).toInt = (s.i 17).toInt + 1) := by
  have is := h.1.2.2.2.1.is (c := 41) (d := 41) (Or.inl ⟨by decide, by decide⟩) (by decide)
  have h15 := h.1.2.1
  have ho := h.2.2.1
  have e1' : (1 : Int32).toInt = 1 := by decide
  unfold f_X12_shut f_X12_shut_18 f_X12_need f_X12_need_27 f_X12_need_31 at g
  rw [if_pos h15] at g
  by_cases kk : S.i 43 = 41
  · have k' := is.mp kk
    unfold f_X1_close f_X1_close_22 at e
    rw [e_fnd1 kk, ob_some, if_neg n10] at e
    rw [if_pos k', y_can1 h15 (by rw [k']; decide), ob_some, if_neg n10] at g
    obtain ⟨pp, ep, e⟩ := hf_bind e
    obtain ⟨w2, gw, g⟩ := hf_bind g
    obtain ⟨q, gq, gw⟩ := hf_bind gw
    obtain ⟨a1, a2, a3, a4, a5, a6, a7, a8, a9, a10, a11, a12⟩ := h.adv hN (by rw [kk]; decide) ep gq
    rw [if_pos a1.1.2.1] at gw
    cases gw
    have g3 : (if (RS.setI q 19 (q.i 19 - 1)).i 15 = 0 then some ((1 : Int32), RS.setI q 19 (q.i 19 - 1)) else some (0, RS.setI q 19 (q.i 19 - 1))) = some V := (if_neg n10).symm.trans g
    rw [if_pos (show (RS.setI q 19 (q.i 19 - 1)).i 15 = 0 from a1.1.2.1)] at g3
    cases e
    cases g3
    have s19 : (q.i 19 - 1).toInt = (s.i 19).toInt - 1 := by
      rw [a10, toInt_sub] <;> rw [e1'] <;> omega
    exact Or.inr ⟨rfl, a1.sg (by rw [a1.2.2.1.1]) (by omega) (by omega), a2, a3, a5, a6, a7, a8, a9, s19, a12⟩
  · have k' : ¬ s.i 10 = 41 := fun q => kk (is.mpr q)
    rw [if_neg k'] at g
    obtain ⟨w2, gw, g⟩ := hf_bind g
    obtain ⟨q, gq, gw⟩ := hf_bind gw
    obtain ⟨q1, q2⟩ := y_can0 gq
    rw [if_pos q1, if_neg q2] at gw
    cases gw
    have g3 : (if q.2.i 15 = 0 then some ((1 : Int32), q.2) else some (0, q.2)) = some V := (if_pos rfl).symm.trans g
    rw [if_neg q2] at g3
    cases g3
    exact Or.inl ⟨rfl, y_cl0 kk e, q2⟩
/-- the name is read and told: in the class in this order, in the reference in the other -/
theorem nm_adv {N : Nat} (hN : 1000 ≤ N) {d : Int32} {P : CS} {q u : RS} {l : Int64} {y c v : Int32} {A w : Unit × CS} {z : Int32 × RS} (h : ENV d P q) (hz : ¬ P.i 43 = 0) (hb : 8 * ((q.i 38).toInt - 1) ≤ (q.i 11).toInt + 2) (hn : ∀ k : Nat, (k : Int) < (q.i 38).toInt → ¬ q.b 39 k = l) (hv : 0 ≤ v.toInt ↔ ¬ vp_nar .boolean y = 0) (e : f_X9_advance N P = some A) (e2 : f_X4_add N A.2 l c v = some w) (g : f_X12_see N q l y = some z) (g2 : f_X12_next N z.2 = some u) : ENV d w.2 u ∧ qj u = qj z.2 ∧ pj A.2 = pj P ∧ u.i 17 = q.i 17 + 1 ∧ (q.i 11).toInt + 1 ≤ (u.i 11).toInt ∧ u.i 20 = q.i 20 ∧ u.a 22 = q.a 22 ∧ A.2.i 22 = P.i 22 ∧ A18 P A.2 ∧ u.i 19 = q.i 19 := by
  obtain ⟨gz, gs1, gsi, gsa, gsb, gsl, gsr⟩ := y_see g
  have sz : SEZ q z.2 := ⟨gsi, gsa, gsb, gsl⟩
  obtain ⟨a1, a2, a3, a4, a5, a6, a7, a8, a9, a10⟩ := h.adv2 hN sz hz e g2
  refine ⟨?_, a2, a3, a4, a5, a6, a7, a8, a9, a10⟩
  have uz := uns.z (u := u) (s := q)
  have un := uns.n (u := u) (s := q)
  obtain ⟨u2, hu2⟩ : ∃ y, y = uns u q := ⟨_, rfl⟩
  rw [← hu2] at uz un a1
  clear hu2
  obtain ⟨ui, ua, ub, ul⟩ := uz
  have hse : ∃ z2 : Int32 × RS, f_X12_see N u2 l y = some z2 ∧ z2.2.i 38 = q.i 38 + 1 ∧ z2.2.b 39 = vp_updL (q.b 39) (q.i 38).toNatClampNeg l ∧ z2.2.a 41 = upd (q.a 41) (q.i 38).toNatClampNeg (vp_nar .boolean y) ∧ (∀ k : Nat, k ≠ 38 → k ≠ 42 → z2.2.i k = u2.i k) ∧ (∀ k : Nat, k ≠ 40 → k ≠ 41 → z2.2.a k = u2.a k) ∧ (∀ k : Nat, k ≠ 39 → z2.2.b k = u2.b k) ∧ z2.2.l = u2.l := by
    have ib0 : ib (u2.i 38) 460 := by rw [un.1]; exact gz
    refine ⟨_, (show f_X12_see N u2 l y = some _ from if_pos ib0), ?_, ?_, ?_, fun k h1 h2 => (if_neg h2).trans (if_neg h1), fun k h1 h2 => (if_neg h2).trans (if_neg h1), fun k h => if_neg h, rfl⟩
    · show u2.i 38 + 1 = q.i 38 + 1
      rw [un.1]
    · show vp_updL (u2.b 39) (u2.i 38).toNatClampNeg l = _
      rw [un.1, un.2.2.1]
    · show upd (u2.a 41) (u2.i 38).toNatClampNeg (vp_nar .boolean y) = _
      rw [un.1, un.2.1]
  obtain ⟨z2, hz2, z38, zb39, za41, zi, za, zb, zl⟩ := hse
  have u11 : u2.i 11 = u.i 11 := ui 11 (by decide) (by decide)
  have y1 : ENV d w.2 z2.2 := a1.nm (by rw [un.1, u11]; omega) (fun k hk => by rw [un.1] at hk; rw [un.2.2.1]; exact hn k hk) hv e2 hz2
  have vse : z.2.b 39 = vp_updL (q.b 39) (q.i 38).toNatClampNeg l ∧ z.2.a 41 = upd (q.a 41) (q.i 38).toNatClampNeg (vp_nar .boolean y) := by
    unfold f_X12_see at g
    obtain ⟨-, g⟩ := hf_ite g
    cases g
    exact ⟨rfl, rfl⟩
  have zY : ∀ k : Nat, k ≠ 38 → k ≠ 42 → u.i k = z2.2.i k := fun k h1 h2 => (ui k h1 h2).symm.trans (zi k h1 h2).symm
  have aY : ∀ k : Nat, k ≠ 40 → k ≠ 41 → u.a k = z2.2.a k := fun k h1 h2 => (ua k h1 h2).symm.trans (za k h1 h2).symm
  have bY : ∀ k : Nat, k ≠ 39 → u.b k = z2.2.b k := fun k h1 => (ub k h1).symm.trans (zb k h1).symm
  have x38 : u.i 38 = z.2.i 38 := (qj_eq a2).2.2.2.2.2.2.2.1
  refine y1.kq ?_ (zY 2 (by decide) (by decide)) (zY 3 (by decide) (by decide)) (zY 18 (by decide) (by decide)) (zY 53 (by decide) (by decide)) (zY 54 (by decide) (by decide)) (zY 55 (by decide) (by decide)) (aY 1 (by decide) (by decide)) (aY 4 (by decide) (by decide)) ?_ (bY 9 (by decide)) ?_ (zY 10 (by decide) (by decide)) (zY 11 (by decide) (by decide)) (zY 12 (by decide) (by decide)) (zY 14 (by decide) (by decide)) (zY 15 (by decide) (by decide)) (zY 17 (by decide) (by decide)) (zY 19 (by decide) (by decide)) ?_ ?_ ?_
  · rw [x38, gs1, z38]
  · rw [qj_a a2 41 (by decide), vse.2, za41]
  · rw [(qj_b a2).2.1, vse.1, zb39]
  · rw [zl, ul]
  · have p1 : phI u = phI z2.2 := by
      unfold phI
      rw [zY 17 (by decide) (by decide), zY 20 (by decide) (by decide)]
    rw [zY 20 (by decide) (by decide), p1]
    exact ⟨y1.2.2.2.2.2.2.1, y1.2.2.2.2.2.2.2.1⟩
  · exact y1.wp.of (by rw [zY 43 (by decide) (by decide)]; exact Int.le_refl _) (zY 56 (by decide) (by decide)) (zY 59 (by decide) (by decide)) (zY 29 (by decide) (by decide)) (aY 58 (by decide) (by decide)) (aY 62 (by decide) (by decide))
/-- where the handlers of the catch lie -/
theorem ct_323 {N : Nat} {x4 : Int32} {V : RS} : ∀ (n : Nat) (σ : RS) (x5 : Int32), f_X12_catching_323 N n σ x4 x5 = some V → ∃ u : RS, f_X12_then N u 3 3 = some V ∧ u.i = σ.i ∧ (∀ k : Nat, k ≠ 35 → k ≠ 36 → u.a k = σ.a k) ∧ u.b = σ.b ∧ u.l = σ.l ∧ (∀ j : Nat, (j : Int) < x5.toInt → u.a 35 j = σ.a 35 j ∧ u.a 36 j = σ.a 36 j) ∧ ∀ j : Nat, x5.toInt ≤ (j : Int) → (j : Int) < (σ.i 33).toInt → u.a 35 j = σ.i 20 ∧ u.a 36 j = x4
  | 0, _, _, h => by cases h
  | n + 1, σ, x5, h => by
    have h' : b_X12_catching_323 N (f_X12_catching_323 N n) σ x4 x5 = some V := h
    unfold b_X12_catching_323 at h'
    by_cases c : σ.i 33 ≤ x5
    · rw [if_pos c, ob_id] at h'
      exact ⟨σ, h', rfl, fun _ _ _ => rfl, rfl, rfl, fun _ _ => ⟨rfl, rfl⟩, fun j j1 j2 => by have := le_int c; omega⟩
    · rw [if_neg c] at h'
      obtain ⟨hib, h'⟩ := hf_ite h'
      obtain ⟨u, u1, u2, u3, u4, u5, u6, u7⟩ := ct_323 n _ _ h'
      have ck := clampI hib.1
      have l4 := hib.2
      have es : (x5 + 1).toInt = x5.toInt + 1 := ad1 hib.1 (by omega)
      refine ⟨u, u1, u2, fun k h1 h2 => (u3 k h1 h2).trans ((setA_nk h2).trans (setA_nk h1)), u4, u5, fun j hj => ?_, fun j j1 j2 => ?_⟩
      · obtain ⟨y1, y2⟩ := u6 j (by omega)
        rw [y1, y2]
        exact ⟨by rw [setA_nk (by decide), setA_ne (by omega)], by rw [setA_ne (by omega), setA_nk (by decide)]⟩
      · by_cases z : (j : Int) = x5.toInt
        · obtain ⟨y1, y2⟩ := u6 j (by omega)
          have ej : j = x5.toNatClampNeg := by omega
          rw [y1, y2, ej]
          exact ⟨by rw [setA_nk (by decide), setA_at], by rw [setA_at]⟩
        · exact u7 j (by omega) j2
