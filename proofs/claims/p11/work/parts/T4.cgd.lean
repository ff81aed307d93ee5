/-! the class's reading: a try's block or a catch's ends -/
theorem NMT.two {p : Nat} {c0 : List Nat} {x : Int32} (h : NMT x (p :: c0)) : NMT x (2 :: c0) := by
  rcases h with h | ⟨i, h1, h2, r, q, h3, h4⟩
  · exact Or.inl h
  · right
    cases r with
    | nil =>
      have w := List.cons.inj h3
      exact ⟨i, h1, h2, [], q, by rw [w.2]; rfl, h4⟩
    | cons b r' =>
      have w := List.cons.inj h3
      exact ⟨i, h1, h2, 2 :: r', q, by rw [w.2]; rfl, h4⟩
theorem JSH.fld {H : HB} {x y : Int} {cD c d : List Nat} {X : List (Nat × List Nat)} {P : List Nat} {lim : List Int} {s : CS} {a m : Nat} (h : JSH H x y cD c d X P lim s) (ea : s.r 51 m = some a) (m4 : m < 400) (hm : s.i 32 = 0 → cnI s = (m : Int) + 1) (k : Nat) (w : Int32) (hk : k = 1 ∨ k = 4 ∨ (5 ≤ k ∧ k ≤ 8) ∨ k = 12 ∨ k = 14 ∨ k = 15 ∨ k = 16) (hb : (5 ≤ k ∧ k ≤ 8) → bo w) : JSH H x y cD c d X P lim (CS.setO s a k w) := ⟨h.1.o a k w hb (by omega), h.2.fld (a := a) (m := m) ea m4 (fun q => by
  have := hm ((shs.i s 32 (by decide)).symm.trans q)
  rw [← this]; unfold cnI; rw [shs.i s 53 (by decide)]) k w hk hb⟩
theorem JSH.tb {H : HB} {x y : Int} {cD c d : List Nat} {X : List (Nat × List Nat)} {P : List Nat} {lim : List Int} {s : CS} (h : JSH H x y cD c d X P lim s) (z : s.i 32 = 0) (hx : x ≤ 10000) (hy : y ≤ 100) : tcI s ≤ 1010 ∧ 0 ≤ szI s := by
  have w := h.2.2 ((shs.i s 32 (by decide)).trans z)
  have t := (w.2.sz h.2.1.2.2.1 h.2.1.2.2.2.2.2.2.1.1 hx hy).2
  have u := w.1.tc0.2
  unfold tcI szI at *
  rw [shs.i s 21 (by decide)] at t
  rw [shs.i s 20 (by decide)] at u
  exact ⟨t, u⟩
/-- the row becomes one between two blocks of a try -/
theorem JSH.grd {H : HB} {x y : Int} {c c0 d : List Nat} {ph : Nat} {X : List (Nat × List Nat)} {P : List Nat} {lim : List Int} {s : CS} {a m : Nat} (h : JSH H x y (2 :: c0) c d X P lim s) (hc : c = ph :: c0) (ea : s.r 51 m = some a) (m4 : m < 400) (hm : s.i 32 = 0 → cnI s = (m : Int) + 1) (hs : s.i 32 = 0 → s.o a 0 = 213 ∨ s.o a 0 = 215) (hd : s.i 32 = 0 → (s.i 38).toInt = (c.length : Int) ∧ c.length ≤ 21) (h10 : s.i 32 = 0 → ∀ k : Nat, (k : Int) = (s.o a 10).toInt → (k : Int) < tcI s → ¬ (s.a 17 k).toInt = -1) : JSH H x y (2 :: c0) (2 :: c0) (2 :: c0) X P lim (CS.setO s a 0 305) := by
  have cb := h.1.o a 0 305 (by omega) (by omega)
  refine ⟨cb, ?_⟩
  have ev : shs (CS.setO s a 0 305) = CS.setO (shs s) a 0 305 := rfl
  rw [ev]
  have cS : cnI (shs s) = cnI s := by unfold cnI; rw [shs.i s 53 (by decide)]
  have S0 : ∀ z : (shs s).i 32 = 0, s.i 32 = 0 := fun z => (shs.i s 32 (by decide)).symm.trans z
  have ou := (OUV.rf (shs s) a).o 0 305
  have ea' : (shs s).r 51 m = some a := ea
  have cbS := h.2.1.o a 0 305 (by omega) (by omega)
  have rq : RSQ (shs s) (CS.setO (shs s) a 0 305) m := fun i hi => ⟨by rw [cr_setO], fun b eb => ou.2.1 b (fun z => by
    rw [z] at eb
    have := h.2.1.1.2.2.1 i m a (by omega) m4 eb ea'
    omega)⟩
  have o0 : (CS.setO (shs s) a 0 305).o a 0 = 305 := by rw [show (CS.setO (shs s) a 0 305).o a = upd ((shs s).o a) 0 305 from ou.2.2.1]; rfl
  have oj : ∀ j : Nat, j ≠ 0 → (CS.setO (shs s) a 0 305).o a j = (shs s).o a j := fun j hj => by
    rw [show (CS.setO (shs s) a 0 305).o a = upd ((shs s).o a) 0 305 from ou.2.2.1]
    exact if_neg hj
  have so : (shs s).o = s.o := rfl
  have sa : (shs s).a = s.a := rfl
  have i0 : (CS.setO (shs s) a 0 305).i = (shs s).i := ci_setO ..
  have a0 : (CS.setO (shs s) a 0 305).a = (shs s).a := ca_setO ..
  have r0 : (CS.setO (shs s) a 0 305).r = (shs s).r := cr_setO ..
  have l0 : (CS.setO (shs s) a 0 305).ol = (shs s).ol := col_setO ..
  have tS : tcI (shs s) = tcI s := by unfold tcI; rw [shs.i s 21 (by decide)]
  have dS : dsI (shs s) = (s.i 38).toInt := by unfold dsI; rw [shs.i s 38 (by decide)]
  have jK := h.2
  have gS := shs.sg s
  generalize shs s = S at *
  generalize CS.setO S a 0 305 = R at *
  refine jK.top cbS (by rw [i0]) ea' (by rw [r0]; exact ea') (fun z => ⟨by rw [cS]; exact hm (S0 z), ⟨⟨by rw [a0], by rw [a0], by rw [a0], by rw [a0], by rw [a0]⟩, by rw [i0], by rw [i0], by rw [i0], by rw [i0]⟩, rq, ⟨by rw [i0], by rw [i0], by rw [i0], by rw [i0], by rw [i0]⟩, by rw [l0], oj 3 (by decide)⟩) (fun z => ?_) (fun z => Or.inr ?_) (fun z => ?_) (fun z DT KT c0' lim0 _ r => ?_) (fun _ k hk => Or.inl hk) (fun z k k1 k2 k3 => Or.inr ?_) (fun _ n _ w => ?_) (fun z => (jK.2 z).1.lim)
  · have w := hd (S0 z)
    rw [hc] at w
    have e : dsI R = dsI S := by unfold dsI; rw [i0]
    rw [e, dS]
    exact ⟨w.1.symm, w.2⟩
  · rw [o0, so]
    refine ⟨by decide, ?_⟩
    rcases hs (S0 z) with e | e <;> rw [e] <;> decide
  · have w := (jK.2 z).2.2.2.2.2.2.2.1
    have em : (cnI S).toNat = m + 1 := by rw [cS]; have := hm (S0 z); omega
    rw [em] at w
    have nrn : NR S m := fun i hi => jK.1.2.2.2.2.2.2.1.2.2 i (by omega)
    have i2 := (rq.sums nrn).2.1
    have e1 : SGS R (m + 1) = SGS S m + sgn R a := by
      show SGS R m + sgn R (rowA R m) = _
      rw [i2, rowA.of (show R.r 51 m = some a by rw [r0]; exact ea')]
    have e2 : SGS S (m + 1) = SGS S m + sgn S a := by
      show SGS S m + sgn S (rowA S m) = _
      rw [rowA.of ea']
    have g0 : sgn R a = 0 := by unfold sgn; rw [o0]; rfl
    have g1 := (sgn.ge S a).1
    omega
  · have e0 : S.o a 0 = 213 ∨ S.o a 0 = 215 := by rw [so]; exact hs (S0 z)
    have cx := r.cx
    have e : c0' = c0 ∧ lim0 = lim := by
      rcases e0 with e | e
      · have w := cx.2.1 e
        rw [hc] at w
        exact ⟨(List.cons.inj w.1).2.symm, w.2⟩
      · have w := cx.2.2.1 (Or.inl e)
        rw [hc] at w
        exact ⟨(List.cons.inj w.1).2.symm, w.2⟩
    have t9 := cx.2.2.2.2.1 (by rcases e0 with e | e; exact Or.inr (Or.inl e); exact Or.inr (Or.inr (Or.inl e)))
    have t11 := cx.2.2.2.2.2.2 (by rcases e0 with e | e; exact Or.inl e; exact Or.inr (Or.inl e))
    obtain ⟨r1, r2, -⟩ := r
    have etR : tcI R = tcI S := by unfold tcI; rw [i0]
    refine ⟨by rw [oj 2 (by decide)]; exact r1, by rw [oj 3 (by decide), a0]; exact r2, Or.inr (Or.inr (Or.inr (Or.inr (Or.inr (Or.inr (Or.inr (Or.inr (Or.inr (Or.inr (Or.inl ⟨o0, ?_, ?_, ?_, e.2⟩))))))))))⟩
    · rw [e.1]
    · rw [oj 9 (by decide), etR]; exact t9
    · rw [oj 11 (by decide), etR]; exact t11
  · unfold OWS at k2 ⊢
    rw [o0, oj 9 (by decide)]
    rcases k2 with w | w
    · exact Or.inl ⟨by decide, by decide, by decide, by decide, w.2.2.2.2⟩
    · exfalso
      rw [so] at w
      exact h10 (S0 z) k w.2.symm (by omega) (by rw [← sa]; exact k3)
  · rw [hc] at w
    exact w.two
/-- as MDL.trn, with the row's names gone -/
theorem MDL.trn2 {p g d : Int} {σ s R : CS} {a m : Nat} (h : MDL p g d σ s) (hp : 1 ≤ p) (hg : 0 ≤ g) (hm : cnI σ = (m : Int) + 1) (ea : σ.r 51 m = some a) (eR : R.r 51 m = some a) (nr : NR σ (m + 1)) (tl : TL2 m s R) (hsg : sgn R a = sgn σ a + d) : TNR σ R := by
  obtain ⟨a0, ⟨a1, a2⟩, a3, ⟨a5, a6⟩, a9, a10, a11, a12, a13⟩ := h
  obtain ⟨⟨t1, t2⟩, ⟨t4, t5, t6⟩, t7, t8, t9, t10, t11, t12⟩ := tl
  have ecn : cnI R = cnI σ := by unfold cnI; rw [t11, a5]
  have em : (cnI σ).toNat = m + 1 := by omega
  have e1 : (cnI σ).toNat - 1 = m := by omega
  rw [e1] at a9
  have rr := a9.tr t2
  have epl : plI R = plI s := by unfold plI; rw [t10]
  have ee : eI R = eI s := by unfold eI; rw [epl, t9]
  have esg : sgI R = sgI s := by unfold sgI; rw [t8]
  obtain ⟨i1, i2, i3, i4, i5⟩ := rr.sums (fun i hi => nr i (by omega))
  have sw : SGS σ (m + 1) = SGS σ m + sgn σ a := by
    show SGS σ m + sgn σ (rowA σ m) = _
    rw [rowA.of ea]
  have sR : SGS R (m + 1) = SGS σ m + sgn R a := by
    show SGS R m + sgn R (rowA R m) = _
    rw [rowA.of eR, i2]
  refine ⟨a0, ⟨by omega, by omega, by omega⟩, ?_, ⟨by omega, by omega, by omega, fun q => absurd q (by omega)⟩, by rw [e1]; exact rr, fun n hn => by rw [t6]; exact a10 n hn, fun i hi => by rw [t4, t5]; exact a11 i hi, t12.trans a6⟩
  rw [ecn, em, sR, sw]
  omega
