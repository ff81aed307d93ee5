/-! the class's reading: blocks, locks, finallys end -/
/-- what the tail of an end leaves as it was -/
def TLE (s R : CS) : Prop := (R.r = s.r ∧ R.o = s.o ∧ R.ol = s.ol) ∧ (R.a 18 = s.a 18 ∧ R.a 19 = s.a 19 ∧ R.a 49 = s.a 49) ∧ (R.i 32 = s.i 32 ∧ R.i 34 = s.i 34 ∧ R.i 43 = s.i 43 ∧ R.i 44 = s.i 44 ∧ R.i 53 = s.i 53 ∧ R.i 56 = s.i 56)
theorem TLE.rf (s : CS) : TLE s s := ⟨⟨rfl, rfl, rfl⟩, ⟨rfl, rfl, rfl⟩, rfl, rfl, rfl, rfl, rfl, rfl⟩
theorem TLE.tr {s R T : CS} (h : TLE s R) (k : TLE R T) : TLE s T := by
  obtain ⟨⟨a1, a2, a3⟩, ⟨a4, a5, a6⟩, a7, a8, a9, a10, a11, a12⟩ := h
  obtain ⟨⟨b1, b2, b3⟩, ⟨b4, b5, b6⟩, b7, b8, b9, b10, b11, b12⟩ := k
  exact ⟨⟨b1.trans a1, b2.trans a2, b3.trans a3⟩, ⟨b4.trans a4, b5.trans a5, b6.trans a6⟩, b7.trans a7, b8.trans a8, b9.trans a9, b10.trans a10, b11.trans a11, b12.trans a12⟩
theorem ADD.tle {s R : CS} {o x : Int32} (h : ADD s R o x) : TLE s R := ⟨⟨h.1.2.2.2.2.2.2.1, h.1.2.2.2.1, h.1.2.2.2.2.1⟩, ⟨h.2.2.2.1 18 (by decide) (by decide), h.2.2.2.1 19 (by decide) (by decide), h.2.2.2.1 49 (by decide) (by decide)⟩, h.2.1 32 (by decide), h.2.1 34 (by decide), h.2.1 43 (by decide), h.2.1 44 (by decide), h.2.1 53 (by decide), h.2.1 56 (by decide)⟩
theorem AIM.tle {s R : CS} {t : Int32} (h : AIM s R t) : TLE s R := ⟨⟨h.1.2.2.2.2.2.2.1, h.1.2.2.2.1, h.1.2.2.2.2.1⟩, ⟨h.2.2.1 18 (by decide), h.2.2.1 19 (by decide), h.2.2.1 49 (by decide)⟩, by rw [h.2.1], by rw [h.2.1], by rw [h.2.1], by rw [h.2.1], by rw [h.2.1], by rw [h.2.1]⟩
theorem IRR.tle {s R : CS} (h : IRR s R) : TLE s R := ⟨⟨h.1.2.2.2.2.2.2.1, h.1.2.2.2.1, h.1.2.2.2.2.1⟩, ⟨h.2.2.1 18 (by decide), h.2.2.1 19 (by decide), h.2.2.1 49 (by decide)⟩, h.2.1 32 (by unfold IRJ; omega), h.2.1 34 (by unfold IRJ; omega), h.2.1 43 (by unfold IRJ; omega), h.2.1 44 (by unfold IRJ; omega), h.2.1 53 (by unfold IRJ; omega), h.2.1 56 (by unfold IRJ; omega)⟩
theorem TLE.i38 {s R : CS} (h : TLE s R) (v : Int32) : TLE s (CS.setI R 38 v) := by
  obtain ⟨⟨a1, a2, a3⟩, ⟨a4, a5, a6⟩, a7, a8, a9, a10, a11, a12⟩ := h
  exact ⟨⟨a1, a2, a3⟩, ⟨a4, a5, a6⟩, (ci_ne _ _ _ (by decide)).trans a7, (ci_ne _ _ _ (by decide)).trans a8, (ci_ne _ _ _ (by decide)).trans a9, (ci_ne _ _ _ (by decide)).trans a10, (ci_ne _ _ _ (by decide)).trans a11, (ci_ne _ _ _ (by decide)).trans a12⟩
theorem TLE.i50 {s R : CS} (h : TLE s R) (v : Int32) : TLE s (CS.setI R 50 v) := by
  obtain ⟨⟨a1, a2, a3⟩, ⟨a4, a5, a6⟩, a7, a8, a9, a10, a11, a12⟩ := h
  exact ⟨⟨a1, a2, a3⟩, ⟨a4, a5, a6⟩, (ci_ne _ _ _ (by decide)).trans a7, (ci_ne _ _ _ (by decide)).trans a8, (ci_ne _ _ _ (by decide)).trans a9, (ci_ne _ _ _ (by decide)).trans a10, (ci_ne _ _ _ (by decide)).trans a11, (ci_ne _ _ _ (by decide)).trans a12⟩
/-- the same, but for the row at m -/
def TL2 (m : Nat) (s R : CS) : Prop := (R.r = s.r ∧ RSQ s R m) ∧ (R.a 18 = s.a 18 ∧ R.a 19 = s.a 19 ∧ R.a 49 = s.a 49) ∧ (R.i 32 = s.i 32 ∧ R.i 34 = s.i 34 ∧ R.i 43 = s.i 43 ∧ R.i 44 = s.i 44 ∧ R.i 53 = s.i 53 ∧ R.i 56 = s.i 56)
theorem TLE.t2 {s R : CS} (h : TLE s R) (m : Nat) : TL2 m s R := ⟨⟨h.1.1, fun i _ => ⟨by rw [h.1.1], fun b _ => ⟨by rw [h.1.2.1], by rw [h.1.2.2]⟩⟩⟩, h.2⟩
theorem TL2.tr {m : Nat} {s R T : CS} (h : TL2 m s R) (k : TL2 m R T) : TL2 m s T := by
  obtain ⟨⟨a1, a2⟩, ⟨a4, a5, a6⟩, a7, a8, a9, a10, a11, a12⟩ := h
  obtain ⟨⟨b1, b2⟩, ⟨b4, b5, b6⟩, b7, b8, b9, b10, b11, b12⟩ := k
  exact ⟨⟨b1.trans a1, a2.tr b2⟩, ⟨b4.trans a4, b5.trans a5, b6.trans a6⟩, b7.trans a7, b8.trans a8, b9.trans a9, b10.trans a10, b11.trans a11, b12.trans a12⟩
theorem OUV.t2 {s R : CS} {a m : Nat} {f : Nat → Int32} {l : Int64} (h : OUV s R a f l) (hr : REFS s) (m4 : m < 400) (ea : s.r 51 m = some a) : TL2 m s R := by
  obtain ⟨⟨a1, a2, a3, a4, a5, a6, a7, a8, a9, a10⟩, a11, a12, a13⟩ := h
  exact ⟨⟨a5, fun i hi => ⟨by rw [a5], fun b eb => a11 b (fun z => by
    rw [z] at eb
    have := hr.2.2.1 i m a (by omega) m4 eb ea
    omega)⟩⟩, ⟨by rw [a9], by rw [a9], by rw [a9]⟩, by rw [a10], by rw [a10], by rw [a10], by rw [a10], by rw [a10], by rw [a10]⟩
theorem setI.cm (s : CS) (j k : Nat) (v w : Int32) (h : j ≠ k) : CS.setI (CS.setI s j v) k w = CS.setI (CS.setI s k w) j v := by
  show some (_, va_up (va_up s.i j v) k w, _) = some (_, va_up (va_up s.i k w) j v, _)
  have : va_up (va_up s.i j v) k w = va_up (va_up s.i k w) j v := by
    funext n
    show (if n = k then w else if n = j then v else s.i n) = (if n = j then v else if n = k then w else s.i n)
    by_cases q : n = k
    · rw [if_pos q, if_neg (by omega), if_pos q]
    · rw [if_neg q]
      by_cases q2 : n = j
      · rw [if_pos q2, if_pos q2]
      · rw [if_neg q2, if_neg q2, if_neg q]
  rw [this]
  rfl
/-- the depth changes -/
theorem JSH.d38 {H : HB} {x y : Int} {cD c d d' : List Nat} {X : List (Nat × List Nat)} {P : List Nat} {lim : List Int} {s : CS} (h : JSH H x y cD c d X P lim s) (v : Int32) (hd : s.i 32 = 0 → (d'.length : Int) = v.toInt ∧ d'.length ≤ 21) : JSH H x y cD c d' X P lim (CS.setI s 38 v) := by
  have one : ∀ s : CS, CBS H s → CBS H (CS.setI s 38 v) := fun s hc => by
    obtain ⟨c1, c2, c3, c4, c5, c6, c7, c8, c9⟩ := hc
    refine ⟨c1, c2, c3, c4, ?_, c6, c7, c8, ?_⟩
    · rw [ci_ne _ _ _ (by decide), ci_ne _ _ _ (by decide)]; exact c5
    · rw [ci_ne _ _ _ (by decide), ci_ne _ _ _ (by decide), ci_ne _ _ _ (by decide), ci_ne _ _ _ (by decide)]; exact c9
  have e : shs (CS.setI s 38 v) = CS.setI (shs s) 38 v := setI.cm s 38 34 v 20 (by decide)
  refine ⟨one s h.1, ?_⟩
  rw [e]
  refine ⟨one _ h.2.1, fun q => ?_⟩
  have yi : ∀ j : Nat, j ≠ 38 → (CS.setI (shs s) 38 v).i j = (shs s).i j := fun j hj => ci_ne _ _ _ hj
  have y38 : dsI (CS.setI (shs s) 38 v) = v.toInt := by unfold dsI; rw [ci_at]
  have q1 := (yi 32 (by decide)).symm.trans q
  obtain ⟨g, n⟩ := h.2.2 q1
  have hd' := hd ((shs.i s 32 (by decide)).symm.trans q1)
  have ra : (CS.setI (shs s) 38 v).r = (shs s).r := rfl
  have oa : (CS.setI (shs s) 38 v).o = (shs s).o := rfl
  have la : (CS.setI (shs s) 38 v).ol = (shs s).ol := rfl
  have aa : (CS.setI (shs s) 38 v).a = (shs s).a := rfl
  have hc := h.2.1
  generalize shs s = S at *
  generalize CS.setI S 38 v = Y at *
  have ck : CK S Y := ⟨⟨⟨by rw [aa], by rw [aa], by rw [aa], by rw [aa], by rw [aa]⟩, ⟨yi 20 (by decide), yi 21 (by decide), yi 50 (by decide), yi 53 (by decide)⟩, by rw [ra], fun b _ => ⟨by rw [oa], by rw [la]⟩⟩, yi 22 (by decide)⟩
  refine ⟨g.ck hc.1 ck, ?_⟩
  have nr := hc.2.2.2.2.2.2.1.2.2
  have rq : RSQ S Y (cnI S).toNat := fun i _ => ⟨by rw [ra], fun b _ => ⟨by rw [oa], by rw [la]⟩⟩
  obtain ⟨i1, i2, i3, i4, i5⟩ := rq.sums nr
  have ecn : cnI Y = cnI S := by unfold cnI; rw [yi 53 (by decide)]
  have etc : tcI Y = tcI S := by unfold tcI; rw [yi 21 (by decide)]
  have ecc : ccI Y = ccI S := by unfold ccI; rw [yi 22 (by decide)]
  have esz : szI Y = szI S := by unfold szI; rw [yi 20 (by decide)]
  have esg : sgI Y = sgI S := by unfold sgI; rw [yi 34 (by decide)]
  have epl : plI Y = plI S := by unfold plI; rw [yi 44 (by decide)]
  have ee : eI Y = eI S := by unfold eI; rw [epl, yi 43 (by decide)]
  obtain ⟨c1, c2, c3, c4, c5, c6, c7, c8, c9⟩ := n
  exact ⟨by omega, by omega, by omega, by omega, by rw [ecn]; exact c5.of rq nr, by rw [ecn, i1, ee]; exact c6, by rw [ecn, i2, esg]; exact c7, by rw [y38]; exact hd', by rw [yi 56 (by decide), ecn, ra, oa]; exact c9⟩
/-- the row of a brace goes -/
theorem q_popE {N : Nat} {H : HB} {x y p g : Int} {c cc : List Nat} {X : List (Nat × List Nat)} {P : List Nat} {lim : List Int} {T : List Int} {σ s' s : CS} {a m : Nat} (h : JSH H x y cc c cc X P lim s) (ht : TUR σ a m) (h1 : sgn σ a = 1) (n2 : ¬ σ.o a 0 = 302) (ea : s.r 51 m = some a) (hσ : JJ H x y c X P lim σ ∨ (SGS σ (m + 1) ≤ sgI σ ∧ sgI σ ≤ 20)) (hs : s.i 32 = 0 → MDL p g (-1) σ s' ∧ TL2 m s' s ∧ s.o a 0 = σ.o a 0 ∧ (∀ (DT : Nat → List Nat) (KT : Nat → Prop) (c0 : List Nat) (lim0 : List Int), ROW1 (shs s) DT KT a c0 c lim lim0 → c0 = cc ∧ lim0 = ccI s :: T) ∧ (nmI s = (s.o a 3).toInt ∨ c = cc) ∧ ∀ k : Nat, (k : Int) < tcI s → (s.a 17 k).toInt = -1 → OWS s a k → k ∈ P) (hp : 0 ≤ p) (hg : 0 ≤ g) : ok ((f_X6_pop N s).bind fun p27 => some ((), p27.2)) (fun R => TNQ H (x - 50) y X P T σ R.2 ∧ (R.2.i 32 = 0 → cnI R.2 = (m : Int))) := by
  obtain ⟨nf, hm, eaσ, nr, m4⟩ := ht
  refine ok_bind (q_popC N h.1) (fun R hR => ok_some ?_)
  obtain ⟨r1, r2, r3⟩ := hR
  show TNQ H (x - 50) y X P T σ R.2 ∧ (R.2.i 32 = 0 → cnI R.2 = (m : Int))
  have hcn : R.2.i 32 = 0 → cnI R.2 = (m : Int) := fun q => by
    obtain ⟨md, tl, -⟩ := hs (r3.symm.trans q)
    have cs : cnI s = (m : Int) + 1 := by rw [← hm]; unfold cnI; rw [tl.2.2.2.2.2.2.1, md.2.2.2.1.1]
    have := (r2 (by omega)).2
    omega
  refine ⟨⟨r1, fun q => ?_⟩, hcn⟩
  have qs := r3.symm.trans q
  obtain ⟨md, tl, es0, hcl, hnm, hO⟩ := hs qs
  have cs : cnI s = (m : Int) + 1 := by rw [← hm]; unfold cnI; rw [tl.2.2.2.2.2.2.1, md.2.2.2.1.1]
  obtain ⟨eR, cR⟩ := r2 (by omega)
  have qS := (shs.i s 32 (by decide)).trans qs
  have n9 := (h.2.2 qS).2.2.2.2.2.2.2.2.2
  have cS : cnI (shs s) = cnI s := by unfold cnI; rw [shs.i s 53 (by decide)]
  have h56 : ((shs s).i 56).toInt < (m : Int) := by
    by_cases z : ((shs s).i 56).toInt = (m : Int)
    · exfalso
      have e2 := n9.2.2 a (by omega) (by rw [show ((shs s).i 56).toInt.toNat = m by omega]; exact ea)
      have e3 : s.o a 0 = 302 := e2
      rw [es0] at e3
      exact n2 e3
    · have := n9.2.1; omega
  have eSR : shs R.2 = CS.setI (shs s) 53 ((shs s).i 53 - 1) := by
    rw [eR, shs.i s 53 (by decide)]
    exact setI.cm s 53 34 _ 20 (by decide)
  have ccS : ccI (shs s) = ccI s := by unfold ccI; rw [shs.i s 22 (by decide)]
  have tcS : tcI (shs s) = tcI s := by unfold tcI; rw [shs.i s 21 (by decide)]
  have nmS : nmI (shs s) = nmI s := by unfold nmI; rw [shs.i s 50 (by decide)]
  have jr := h.2.pop (R := shs R.2) (cc := cc) (ll := ccI s :: T) qS (by have := r1.s34 20; exact this) (by omega) ea eSR (by unfold cnI; rw [shs.i R.2 53 (by decide)]; unfold cnI at cR cs; omega) (fun k k1 k2 k3 => hO k (by omega) k2 k3) hcl (fun n hn => by
    rcases hnm with w | w
    · left
      have hn' : (n : Int) < nmI s := by omega
      have : (n : Int) < (s.o a 3).toInt := by omega
      exact this
    · exact Or.inr w) h56 (by rw [ccS]; exact Int.le_refl _)
  have Ri : ∀ j : Nat, j ≠ 53 → R.2.i j = s.i j := fun j k1 => by rw [eR, ci_ne _ _ _ k1]
  have ecc : ccI R.2 = ccI s := by unfold ccI; rw [Ri 22 (by decide)]
  have trn : TNR σ R.2 := by
    refine md.pop hp hg hm eaσ nr (by rw [h1]) (fun j hj => ?_) (by rw [eR, ca_setI]; exact tl.2.1) (tl.1.2.tr (fun i _ => ⟨by rw [eR, cr_setI], fun b _ => ⟨by rw [eR, co_setI], by rw [eR, col_setI]⟩⟩)) (by omega)
    rw [Ri j (by omega)]
    rcases hj with e | e | e | e <;> rw [e]
    · exact tl.2.2.2.1
    · exact tl.2.2.2.2.1
    · exact tl.2.2.2.2.2.1
    · exact tl.2.2.2.2.2.2.2
  refine ⟨⟨cc, ?_⟩, trn⟩
  rw [ecc]
  refine JK.j (JSH.un ⟨r1, jr⟩ (fun _ => ?_))
  have e3 := trn.2.2.1
  have emσ : (cnI σ).toNat = m + 1 := by omega
  rw [emσ] at e3
  have b : SGS σ (m + 1) ≤ sgI σ ∧ sgI σ ≤ 20 := by
    rcases hσ with w | w
    · have n := (w.2 nf).2
      have n7 := n.2.2.2.2.2.2.1
      rw [emσ] at n7
      exact ⟨n7, n.2.2.2.1.2⟩
    · exact w
  have sR : sgI R.2 = sgI σ + -1 := by
    rw [← md.2.2.1]
    unfold sgI
    rw [Ri 34 (by decide), tl.2.2.2.1]
  have bas := (BAS (s := R.2) (cnI R.2).toNat).2.2.2.1
  omega
