/-! the class's reading: an arm ends -/
theorem CBS.s56 {H : HB} {s : CS} (h : CBS H s) (w : Int32) : CBS H (CS.setI s 56 w) := by
  obtain ⟨c1, c2, c3, c4, c5, c6, c7, c8, c9⟩ := h
  refine ⟨c1, c2, c3, c4, ?_, c6, c7, c8, ?_⟩
  · rw [ci_ne _ _ _ (by decide), ci_ne _ _ _ (by decide)]; exact c5
  · rw [ci_ne _ _ _ (by decide), ci_ne _ _ _ (by decide), ci_ne _ _ _ (by decide), ci_ne _ _ _ (by decide)]; exact c9
/-- another arm is the innermost -/
theorem JK.i56 {H : HB} {x y : Int} {cD c d : List Nat} {X : List (Nat × List Nat)} {P : List Nat} {lim : List Int} {s : CS} (h : JK H x y cD c d X P lim s) (w : Int32) (hw : s.i 32 = 0 → -1 ≤ w.toInt ∧ w.toInt < cnI s ∧ ∀ a : Nat, 0 ≤ w.toInt → s.r 51 w.toInt.toNat = some a → s.o a 0 = 302) : JK H x y cD c d X P lim (CS.setI s 56 w) := by
  refine ⟨h.1.s56 w, fun q => ?_⟩
  have yi : ∀ j : Nat, j ≠ 56 → (CS.setI s 56 w).i j = s.i j := fun j hj => ci_ne _ _ _ hj
  have y56 : (CS.setI s 56 w).i 56 = w := ci_at _ _ _
  have q1 := (yi 32 (by decide)).symm.trans q
  obtain ⟨g, n⟩ := h.2 q1
  have hw' := hw q1
  have ra : (CS.setI s 56 w).r = s.r := rfl
  have oa : (CS.setI s 56 w).o = s.o := rfl
  have la : (CS.setI s 56 w).ol = s.ol := rfl
  have aa : (CS.setI s 56 w).a = s.a := rfl
  have hc := h.1
  generalize CS.setI s 56 w = Y at *
  have ck : CK s Y := ⟨⟨⟨by rw [aa], by rw [aa], by rw [aa], by rw [aa], by rw [aa]⟩, ⟨yi 20 (by decide), yi 21 (by decide), yi 50 (by decide), yi 53 (by decide)⟩, by rw [ra], fun b _ => ⟨by rw [oa], by rw [la]⟩⟩, yi 22 (by decide)⟩
  refine ⟨g.ck hc.1 ck, ?_⟩
  have nr := hc.2.2.2.2.2.2.1.2.2
  have rq : RSQ s Y (cnI s).toNat := fun i _ => ⟨by rw [ra], fun b _ => ⟨by rw [oa], by rw [la]⟩⟩
  obtain ⟨i1, i2, i3, i4, i5⟩ := rq.sums nr
  have ecn : cnI Y = cnI s := by unfold cnI; rw [yi 53 (by decide)]
  have etc : tcI Y = tcI s := by unfold tcI; rw [yi 21 (by decide)]
  have ecc : ccI Y = ccI s := by unfold ccI; rw [yi 22 (by decide)]
  have esz : szI Y = szI s := by unfold szI; rw [yi 20 (by decide)]
  have esg : sgI Y = sgI s := by unfold sgI; rw [yi 34 (by decide)]
  have eds : dsI Y = dsI s := by unfold dsI; rw [yi 38 (by decide)]
  have epl : plI Y = plI s := by unfold plI; rw [yi 44 (by decide)]
  have ee : eI Y = eI s := by unfold eI; rw [epl, yi 43 (by decide)]
  obtain ⟨c1, c2, c3, c4, c5, c6, c7, c8, c9⟩ := n
  exact ⟨by omega, by omega, by omega, by omega, by rw [ecn]; exact c5.of rq nr, by rw [ecn, i1, ee]; exact c6, by rw [ecn, i2, esg]; exact c7, by rw [eds]; exact c8, by rw [y56, ecn, ra, oa]; exact hw'⟩
/-- what the end of an arm leaves -/
def ARE (m : Nat) (v : Int32) (s R : CS) : Prop := s.i 32 = 0 ∧ (plI s + 1 ≤ plI R ∧ eI s ≤ eI R) ∧ (sgI R = sgI s - 1 ∧ cnI R = (m : Int)) ∧ RSQ s R m ∧ (∀ n : Nat, (n : Int) < nmI s → R.a 49 n = s.a 49 n) ∧ (∀ i : Nat, (i : Int) < ccI s → R.a 18 i = s.a 18 i ∧ R.a 19 i = s.a 19 i) ∧ R.i 22 = s.i 22 ∧ R.i 38 = s.i 38 ∧ R.i 50 = v ∧ R.o = s.o
theorem ROW1.arm {s : CS} {DT : Nat → List Nat} {KT : Nat → Prop} {a : Nat} {c0 c : List Nat} {lim lim' : List Int} (r : ROW1 s DT KT a c0 c lim lim') (hs : s.o a 0 = 302) : c = c0 ∧ ∃ v : Int, lim = v :: v :: lim' ∧ lmh lim' ≤ v := by
  obtain ⟨r1, r2, r3⟩ := r
  have no : ∀ w : Int32, s.o a 0 = w → ¬ w = 302 → c = c0 ∧ ∃ v : Int, lim = v :: v :: lim' ∧ lmh lim' ≤ v := fun w e n => absurd (e.symm.trans hs) n
  rcases r3 with ⟨z1, z2, e⟩ | ⟨z1, z2, z3, z4⟩ | ⟨z1, z2, z3, e⟩ | ⟨z1, z2, z3, e⟩ | ⟨z1, z2, z3, z4, e⟩ | ⟨z1, z2, z3, z4, z5, e⟩ | ⟨z1, z2, z3, z4, z5, z6⟩ | ⟨z1, z2, z3, e⟩ | ⟨z1, z2, z3, z4, z5, e⟩ | ⟨z1, z2, z3, z4, z5, e⟩ | ⟨z1, z2, z3, z4, e⟩ | ⟨z1, z2, z3, e⟩
  · rcases z1 with z1 | z1
    · exact no _ z1 (by decide)
    · exact no _ z1 (by decide)
  · exact ⟨z2, z4⟩
  · exact no _ z1 (by decide)
  · rcases z1 with z1 | z1
    · exact no _ z1 (by decide)
    · exact no _ z1 (by decide)
  · rcases z1 with z1 | z1 | z1
    · exact no _ z1 (by decide)
    · exact no _ z1 (by decide)
    · exact no _ z1 (by decide)
  · exact no _ z1 (by decide)
  · exact no _ z1 (by decide)
  · exact no _ z1 (by decide)
  · exact no _ z1 (by decide)
  · exact no _ z1 (by decide)
  · exact no _ z1 (by decide)
  · exact no _ z1 (by decide)
theorem q_popArm {N : Nat} {H : HB} {x y : Int} {c : List Nat} {X : List (Nat × List Nat)} {P : List Nat} {T : List Int} {σ : CS} {a m : Nat} {s' s : CS} (hσ : JJ H (x + 100) y c X P (ccI σ :: T) σ) (ht : TUR σ a m) (hs : σ.o a 0 = 302) (w : Int32) (hw : -1 ≤ w.toInt ∧ w.toInt < (m : Int) ∧ ∀ b : Nat, 0 ≤ w.toInt → σ.r 51 w.toInt.toNat = some b → σ.o b 0 = 302) (h : ECL H x y c X P T σ a m s' s) : ok ((f_X6_pop N s).bind fun p27 => some ((), p27.2)) (fun R => CBS H R.2 ∧ (R.2.i 32 = 0 → ∃ lim' : List Int, T = ccI σ :: lim' ∧ JJ H (x - 50) y c X P lim' (CS.setI R.2 56 w) ∧ ARE m (σ.o a 3) σ R.2)) := by
  obtain ⟨nf, hm, eaσ, nr, m4⟩ := (show TUR σ a m from ht)
  obtain ⟨DT0, KT0, c0, lim0, r0⟩ := hσ.row ht
  obtain ⟨ec, v0, ev, lv⟩ := r0.arm hs
  have ev1 : ccI σ = v0 := (List.cons.inj ev).1
  have ev2 : T = v0 :: lim0 := (List.cons.inj ev).2
  refine ok_bind (q_popC N h.1.1) (fun R hR => ok_some ?_)
  obtain ⟨r1, r2, r3⟩ := hR
  show CBS H R.2 ∧ (R.2.i 32 = 0 → ∃ lim' : List Int, T = ccI σ :: lim' ∧ JJ H (x - 50) y c X P lim' (CS.setI R.2 56 w) ∧ ARE m (σ.o a 3) σ R.2)
  refine ⟨r1, fun q => ⟨lim0, by rw [ev1]; exact ev2, ?_⟩⟩
  have qs := r3.symm.trans q
  obtain ⟨md, tl, ⟨sr, so, sl⟩, e22, e38, e50, cs⟩ := h.2.2 qs
  have eo := h.o qs
  obtain ⟨eR, cR⟩ := r2 (by omega)
  have qS := (shs.i s 32 (by decide)).trans qs
  have cS : cnI (shs s) = cnI s := by unfold cnI; rw [shs.i s 53 (by decide)]
  have sR0 : s.r = σ.r := tl.1.1.trans sr
  have jV := h.1.2.i56 w (fun _ => ⟨hw.1, by rw [cS]; omega, fun b b0 eb => by
    have eb' : s.r 51 w.toInt.toNat = some b := eb
    rw [sR0] at eb'
    show s.o b 0 = 302
    rw [eo]
    exact hw.2.2 b b0 eb'⟩)
  have eV : CS.setI (CS.setI (shs s) 56 w) 53 ((CS.setI (shs s) 56 w).i 53 - 1) = shs (CS.setI R.2 56 w) := by
    have e53 : (CS.setI (shs s) 56 w).i 53 = s.i 53 := (ci_ne _ _ _ (by decide)).trans (shs.i s 53 (by decide))
    rw [e53, eR]
    unfold shs
    rw [setI.cm (CS.setI s 34 20) 56 53 w _ (by decide), setI.cm s 34 53 20 _ (by decide), setI.cm (CS.setI s 53 (s.i 53 - 1)) 34 56 20 w (by decide)]
  have qV : (CS.setI (shs s) 56 w).i 32 = 0 := (ci_ne _ _ _ (by decide)).trans qS
  have cV : cnI (CS.setI (shs s) 56 w) = (m : Int) + 1 := by
    rw [← cs, ← cS]; unfold cnI; rw [ci_ne _ _ _ (by decide)]
  have cR' : cnI (shs (CS.setI R.2 56 w)) = (m : Int) := by
    unfold cnI at cR cs ⊢
    rw [shs.i _ 53 (by decide), ci_ne _ _ _ (by decide)]
    omega
  have ccV : ccI (CS.setI (shs s) 56 w) = ccI σ := by unfold ccI; rw [ci_ne _ _ _ (by decide), shs.i s 22 (by decide), e22]
  have jr := jV.pop (R := shs (CS.setI R.2 56 w)) (cc := c) (ll := lim0) qV (by have := (r1.s56 w).s34 20; exact this) cV (by show s.r 51 m = some a; exact h.2.1) eV.symm cR' (fun k k1 k2 k3 => by
    exfalso
    have k3' : OWS s a k := k3
    unfold OWS at k3'
    rw [eo, hs] at k3'
    rcases k3' with k4 | k4
    · exact k4.2.2.1 rfl
    · exact absurd k4.1 (by decide)) (fun DT KT c0' L0 r => by
    have so' : (CS.setI (shs s) 56 w).o a 0 = 302 := by show s.o a 0 = 302; rw [eo]; exact hs
    obtain ⟨w1, v1, w2, -⟩ := r.arm so'
    refine ⟨w1.symm, ?_⟩
    have w3 := (List.cons.inj w2).2
    rw [ev2] at w3
    exact (List.cons.inj w3).2.symm) (fun _ _ => Or.inr rfl) (by
    rw [show (CS.setI (shs s) 56 w).i 56 = w from ci_at _ _ _]; exact hw.2.1) (by rw [ccV, ev1]; exact lv)
  have Ri : ∀ j : Nat, j ≠ 53 → R.2.i j = s.i j := fun j k1 => by rw [eR, ci_ne _ _ _ k1]
  have rqm : RSQ σ R.2 m := by
    have a9 := md.2.2.2.2.1
    rw [show (cnI σ).toNat - 1 = m by omega] at a9
    exact (a9.tr (tl.t2 m).1.2).tr (fun i _ => ⟨by rw [eR, cr_setI], fun b _ => ⟨by rw [eR, co_setI], by rw [eR, col_setI]⟩⟩)
  have sgR : sgI R.2 = sgI σ - 1 := by
    have := md.2.2.1
    have e : sgI R.2 = sgI s' := by unfold sgI; rw [Ri 34 (by decide), tl.2.2.2.1]
    omega
  refine ⟨JK.j (JSH.un ⟨r1.s56 w, jr⟩ (fun _ => ?_)), nf, ?_, ⟨sgR, by omega⟩, rqm, fun n hn => ?_, fun i hi => ?_, ?_, ?_, ?_, by rw [eR, co_setI, eo]⟩
  · have cR2 : cnI (CS.setI R.2 56 w) = (m : Int) := by unfold cnI at *; rw [ci_ne _ _ _ (by decide)]; omega
    have sg2 : sgI (CS.setI R.2 56 w) = sgI R.2 := by unfold sgI; rw [ci_ne _ _ _ (by decide)]
    have rq2 : RSQ σ (CS.setI R.2 56 w) m := rqm.tr (fun i _ => ⟨by rw [cr_setI], fun b _ => ⟨by rw [co_setI], by rw [col_setI]⟩⟩)
    have i2 := (rq2.sums (fun i hi => nr i (by omega))).2.1
    have nb := (hσ.2 nf).2
    have n7 := nb.2.2.2.2.2.2.1
    rw [show (cnI σ).toNat = m + 1 by omega] at n7
    have sw : SGS σ (m + 1) = SGS σ m + sgn σ a := by
      show SGS σ m + sgn σ (rowA σ m) = _
      rw [rowA.of eaσ]
    have s2 : sgn σ a = 2 := by unfold sgn; rw [hs]; rfl
    have bas := (BAS (s := σ) m).2.2.2.1
    have n4 := nb.2.2.2.1.2
    rw [cR2, sg2, sgR, show ((m : Int)).toNat = m by omega, i2]
    omega
  · have epl : plI R.2 = plI s' := by unfold plI; rw [Ri 44 (by decide), tl.2.2.2.2.2.1]
    have ee : eI R.2 = eI s' := by unfold eI; rw [epl, Ri 43 (by decide), tl.2.2.2.2.1]
    have := md.2.1
    omega
  · rw [eR, ca_setI, tl.2.1.2.2]; exact md.2.2.2.2.2.1 n hn
  · rw [eR, ca_setI, tl.2.1.1, tl.2.1.2.1]; exact md.2.2.2.2.2.2.1 i hi
  · rw [Ri 22 (by decide), e22]
  · rw [Ri 38 (by decide), e38]
  · have : (R.2.i 50).toInt = (σ.o a 3).toInt := by
      rw [Ri 50 (by decide), ← eo]; exact e50
    exact Int32.toInt_inj.mp this
