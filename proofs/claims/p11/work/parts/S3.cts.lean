/-! the class's reading: a try's resources -/
theorem SRL.fld {s T : CS} {a m : Nat} (h : SRL s T) (hm : (m : Int) = cnI s) (hc : cnI T = (m : Int) + 1) (ea : T.r 51 m = some a) (m4 : m < 400) (hr : REFS T) (nr : NR T (m + 1)) (k : Nat) (w : Int32) (hk : k ≠ 0) : SRL s (CS.setO T a k w) := by
  obtain ⟨a0, a1, a2, a3, a4, a5, a6, a7, a8, a9, h5⟩ := h
  have ou := (OUV.rf T a).o k w
  have em : (cnI s).toNat = m := by omega
  have rq : RSQ T (CS.setO T a k w) m := fun i hi => ⟨by rw [cr_setO], fun b eb => by
    have ne : b ≠ a := fun z => by
      rw [z] at eb
      have := hr.2.2.1 i m a (by omega) m4 eb ea
      omega
    exact ou.2.1 b ne⟩
  have o0 : (CS.setO T a k w).o a 0 = T.o a 0 := by
    rw [show (CS.setO T a k w).o a = upd (T.o a) k w from ou.2.2.1]
    exact if_neg (fun z => hk z.symm)
  have cm : (cnI T).toNat = m + 1 := by omega
  have sg : SGS (CS.setO T a k w) (m + 1) = SGS T (m + 1) := by
    show SGS (CS.setO T a k w) m + sgn (CS.setO T a k w) (rowA (CS.setO T a k w) m) = SGS T m + sgn T (rowA T m)
    rw [(rq.sums (fun i hi => nr i (by omega))).2.1, rowA.of (show (CS.setO T a k w).r 51 m = some a from ea), rowA.of ea]
    unfold sgn
    rw [o0]
  have i0 : (CS.setO T a k w).i = T.i := ci_setO ..
  have rr : (CS.setO T a k w).r = T.r := cr_setO ..
  have a0' : (CS.setO T a k w).a = T.a := ca_setO ..
  generalize CS.setO T a k w = R at *
  have ecn : cnI R = cnI T := by unfold cnI; rw [i0]
  have epl : plI R = plI T := by unfold plI; rw [i0]
  have ee : eI R = eI T := by unfold eI; rw [epl, i0]
  have esg : sgI R = sgI T := by unfold sgI; rw [i0]
  have enm : nmI R = nmI T := by unfold nmI; rw [i0]
  refine ⟨a0, by rw [epl, ee]; exact a1, ?_, by rw [ecn]; exact a3, ?_, by rw [a0']; exact a5, by rw [a0']; exact a6, by rw [i0]; exact a7, by rw [i0]; exact a8, by rw [enm]; exact a9, fun y _ b eb => ?_⟩
  · rw [esg, ecn, cm, sg, ← cm]; exact a2
  · rw [em] at a4 ⊢
    exact a4.tr rq
  · rw [em, rr] at eb
    rw [em] at h5
    rw [ea] at eb
    cases eb
    rw [o0]
    exact h5 y (by omega) a ea
theorem JW.fld8 {H : HB} {x y : Int} {c : List Nat} {X : List (Nat × List Nat)} {P : List Nat} {lim : List Int} {s0 s : CS} {a m : Nat} (h : JW H x y c X P lim s0 a m s) : JW H x y c X P lim s0 a m (CS.setO s a 8 1) := by
  obtain ⟨h1, ⟨h2, h3⟩, h4⟩ := h
  refine ⟨h1.o a 8 1 (fun _ => Or.inr rfl) (by omega), ⟨h2, h3⟩, fun q => ?_⟩
  obtain ⟨j, k⟩ := h4 q
  have ev : vir (CS.setO s a 8 1) = CS.setO (vir s) a 8 1 := rfl
  rw [ev]
  have cV : cnI (vir s) = cnI s := by unfold cnI; rw [vir.i s 53 (by decide)]
  refine ⟨JK.j (j.k.fld (a := a) (m := m) h2 h3 (fun z => ?_) 8 1 (by omega) (fun _ => Or.inr rfl)), fun z => ?_⟩
  · rw [cV]; exact (k ((vir.i s 32 (by decide)).symm.trans z)).1
  · obtain ⟨k1, k2, k3⟩ := k z
    refine ⟨k1, k2, k3.fld k2 (by rw [cV]; exact k1) h2 h3 j.1.1 ?_ 8 1 (by decide)⟩
    have := j.1.2.2.2.2.2.2.1.2.2
    rw [cV, k1] at this
    exact this
theorem q_JWopen {N : Nat} {H : HB} (hN : 1000 ≤ N) {x y : Int} {c : List Nat} {X : List (Nat × List Nat)} {P : List Nat} {lim : List Int} {s0 s : CS} {a m : Nat} (h : JW H x y c X P lim s0 a m s) : ok (f_X7_beginTry_132 N s) (fun R => STQ H (x - 100) y X P lim s0 R.2) := by
  unfold f_X7_beginTry_132
  refine ok_bind (q_open hN h.1 123) (fun p hp => ok_some ?_)
  rcases hp with hf | ⟨p1, p2, p3⟩
  · exact STQ.flt h.1 hf
  · obtain ⟨j, k⟩ := h.2.2 p2
    have p3' : ADV (vir s) p.2 := p3
    obtain ⟨j2, e2⟩ := j.tk p3' (fun _ => by rw [vir.i s 43 (by decide), p1]; decide)
    refine ⟨j2.1, fun z => ⟨⟨c, j2⟩, ?_⟩⟩
    have z1 := (vir.i s 32 (by decide)).symm.trans (e2 z).1
    exact SX.srl2 (k z1).2.2 (e2 z).sx (by omega) (by omega) j.1.2.2.2.2.2.2.1.2.2
theorem q_openRes {N : Nat} {H : HB} (hN : 1000 ≤ N) {x y : Int} {c : List Nat} {X : List (Nat × List Nat)} {P : List Nat} {lim : List Int} {s0 s : CS} {a m : Nat} (hx : x ≤ 5000) (hy : y ≤ 95) (h : JW H x y c X P lim s0 a m s) : ok (f_X7_openResource N s) (fun R => JW H x y c X P lim s0 a m R.2) := by
  unfold f_X7_openResource
  refine ok_bind (q_found s 4) (fun p hp => ?_)
  obtain ⟨p1, p2⟩ := hp
  rw [p1]
  rcases p2 with ⟨p2, p3⟩ | ⟨p2, p3⟩
  · rw [if_pos p2]
    exact ok_bind (q_misp h.1) (fun q hq => ok_some (JW.flt h.1 h.2.1 hq))
  · rw [p2, if_neg (by decide)]
    refine ok_bind (q_add N s 55 _) (fun q hq => ?_)
    have j1 := h.add hq (by omega) (by omega) (by decide)
    refine ok_bind (q_advC hN j1.1) (fun r hr => ok_some ?_)
    exact (j1.adv hr (fun _ => by rw [hq.f32.2.1, p3]; decide)).w (by omega) (Int.le_refl _)
theorem q_try106 {N : Nat} {H : HB} (hN : 1000 ≤ N) {x y : Int} {c : List Nat} {X : List (Nat × List Nat)} {P : List Nat} {lim : List Int} {s0 : CS} {a m : Nat} (hx : x ≤ 5000) (hy : y ≤ 95) : ∀ (n : Nat) (σ : CS) (x2 : Int32), 0 ≤ x2.toInt → x2.toInt ≤ 900 → 900 - x2.toInt < n → JW H x y c X P lim s0 a m σ → ok (f_X7_beginTry_106 N n σ x2) (fun R => STQ H (x - 100) y X P lim s0 R.2)
  | 0, _, _, _, _, h, _ => by omega
  | n + 1, σ, x2, h0, h9, hn, hj => by
    show ok (b_X7_beginTry_106 N (f_X7_beginTry_106 N n) σ x2) _
    unfold b_X7_beginTry_106
    have e9 : (900 : Int32).toInt = 900 := by decide
    have e1 : (1 : Int32).toInt = 1 := by decide
    refine ok_ite (fun _ => q_JWopen hN hj) (fun c9 => ?_)
    have l : x2.toInt < 900 := by
      have := lt_int (Int32.not_le.mp c9)
      rw [e9] at this; exact this
    have es : (x2 + 1).toInt = x2.toInt + 1 := by rw [toInt_add] <;> rw [e1] <;> omega
    refine ok_bind (q_skip hN hj.1 44) (fun p hp => ?_)
    rcases hp with ⟨p1, p2, p3⟩ | ⟨p1, p2, p3⟩
    · rw [if_pos p1, p2]; exact q_JWopen hN hj
    · rw [p1, if_neg (by decide)]
      have j1 := hj.adv p3 (fun _ => by rw [p2]; decide)
      refine ok_bind (q_openRes hN (by omega) hy j1) (fun q hq => ?_)
      exact q_try106 hN hx hy n q.2 (x2 + 1) (by omega) (by omega) (by omega) (hq.w (by omega) (Int.le_refl _))
