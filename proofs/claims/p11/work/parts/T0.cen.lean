/-! the class's reading: ends of rows in braces -/
/-- with all signs begun -/
noncomputable def shs (s : CS) : CS := CS.setI s 34 20
theorem shs.i (s : CS) (j : Nat) (hj : j ≠ 34) : (shs s).i j = s.i j := ci_ne _ _ _ hj
theorem shs.sg (s : CS) : sgI (shs s) = 20 := by
  unfold sgI shs
  rw [ci_at]
  decide
def JSH (H : HB) (x y : Int) (cD c d : List Nat) (X : List (Nat × List Nat)) (P : List Nat) (lim : List Int) (s : CS) : Prop := CBS H s ∧ JK H x y cD c d X P lim (shs s)
theorem CBS.s34 {H : HB} {s : CS} (h : CBS H s) (v : Int32) : CBS H (CS.setI s 34 v) := ((TS9.rf s).i34 v).cb h h.2.2.1 (by rw [ci_ne _ _ _ (by decide), ci_ne _ _ _ (by decide)]; exact h.2.2.2.2.1) (fun q => (ci_ne _ _ _ (by decide)).symm.trans q)
theorem JSH.flt {H : HB} {x y : Int} {cD c d : List Nat} {X : List (Nat × List Nat)} {P : List Nat} {lim : List Int} {s : CS} (h : CBS H s) (nf : ¬ s.i 32 = 0) : JSH H x y cD c d X P lim s := ⟨h, h.s34 20, fun q => absurd ((shs.i s 32 (by decide)).symm.trans q) nf⟩
theorem JSH.w {H : HB} {x y x' y' : Int} {cD c d : List Nat} {X : List (Nat × List Nat)} {P : List Nat} {lim : List Int} {s : CS} (h : JSH H x y cD c d X P lim s) (hx : x ≤ x') (hy : y ≤ y') : JSH H x' y' cD c d X P lim s := ⟨h.1, h.2.w hx hy⟩
theorem ADD.e {s R : CS} {o x : Int32} (h : ADD s R o x) : ADD (shs s) (shs R) o x := by
  obtain ⟨b, b11, b12, b13, b14, b15⟩ := h
  unfold shs
  refine ⟨b, fun j hj => ?_, ?_, b13, ?_, ?_⟩
  · by_cases q : j = 34
    · rw [q, ci_at, ci_at]
    · rw [ci_ne _ _ _ q, ci_ne _ _ _ q]; exact b11 j hj
  · rw [ci_ne _ _ _ (by decide), ci_ne _ _ _ (by decide)]; exact b12
  · rw [ca_setI, ca_setI, ci_ne _ _ _ (by decide)]; exact b14
  · rw [ca_setI, ca_setI, ci_ne _ _ _ (by decide)]; exact b15
theorem AIM.e {s R : CS} {t : Int32} (h : AIM s R t) : AIM (shs s) (shs R) t := by
  obtain ⟨b, b11, b13, b14⟩ := h
  unfold shs
  refine ⟨b, ?_, b13, ?_⟩
  · show va_up R.i 34 20 = va_up s.i 34 20
    rw [b11]
  · rw [ca_setI, ca_setI, ci_ne _ _ _ (by decide)]; exact b14
theorem IRR.e {s R : CS} (h : IRR s R) : IRR (shs s) (shs R) := by
  obtain ⟨a, b, c, d, e⟩ := h
  unfold shs
  refine ⟨a, fun j hj => ?_, c, ?_, ?_⟩
  · by_cases q : j = 34
    · rw [q, ci_at, ci_at]
    · rw [ci_ne _ _ _ q, ci_ne _ _ _ q]; exact b j hj
  · rw [ci_ne _ _ _ (by decide)]; exact d
  · rw [ci_ne _ _ _ (by decide)]; exact e
theorem JSH.add {H : HB} {x y : Int} {cD c d c1 : List Nat} {X : List (Nat × List Nat)} {P : List Nat} {lim : List Int} {s R : CS} {o v : Int32} (h : JSH H x y cD c d X P lim s) (ha : ADD s R o v) (hx : x ≤ 10000) (hy : y ≤ 100) (hl : s.i 32 = 0 → cD.length ≤ 21) (hI : s.i 32 = 0 → ∀ (DT : Nat → List Nat) (KT : Nat → Prop), (∀ q ∈ X, (q.1 : Int) < tcI s ∧ DT q.1 = q.2 ∧ ¬ KT q.1) → (∀ n : Nat, (n : Int) = cnI s → RCH (shs s) DT KT n c lim) → IOK (tcI s) DT KT o v cD c1) : JSH H (x + 1) y c1 c d X P lim R := ⟨ha.cb h.1, h.2.add ha.e hx hy (fun q => hl ((shs.i s 32 (by decide)).symm.trans q)) (fun q DT KT z1 z2 _ => hI ((shs.i s 32 (by decide)).symm.trans q) DT KT z1 z2)⟩
theorem JSH.aim {H : HB} {x y : Int} {cD c d : List Nat} {X : List (Nat × List Nat)} {P P' : List Nat} {lim : List Int} {s R : CS} {t : Int32} (h : JSH H x y cD c d X P lim s) (ha : AIM s R t) (hx : x ≤ 10000) (hy : y ≤ 100) (hT : s.i 32 = 0 → ∀ (DT : Nat → List Nat) (KT : Nat → Prop), (∀ q ∈ X, (q.1 : Int) < tcI s ∧ DT q.1 = q.2 ∧ ¬ KT q.1) → (∀ n : Nat, (n : Int) = cnI s → RCH (shs s) DT KT n c lim) → 0 ≤ t.toInt ∧ t.toInt < tcI s ∧ DT t.toInt.toNat = cD) (hP : s.i 32 = 0 → ∀ k ∈ P, k ∈ P' ∨ (k : Int) = t.toInt) : JSH H x y cD c d X P' lim R := ⟨ha.cb h.1 (fun q => by
  have w := (h.2.2 ((shs.i s 32 (by decide)).trans q)).1.tc0.2
  exact w), h.2.aim ha.e hx hy (fun q => hT ((shs.i s 32 (by decide)).symm.trans q)) (fun q => hP ((shs.i s 32 (by decide)).symm.trans q))⟩
theorem JSH.irr {H : HB} {x y : Int} {cD c d : List Nat} {X : List (Nat × List Nat)} {P : List Nat} {lim : List Int} {s R : CS} (h : JSH H x y cD c d X P lim s) (hi : IRR s R) : JSH H x y cD c d X P lim R := ⟨hi.cb h.1, h.2.irr hi.e⟩
theorem JSH.nmr {H : HB} {x y : Int} {cD c d : List Nat} {X : List (Nat × List Nat)} {P : List Nat} {lim : List Int} {s : CS} {a m : Nat} (h : JSH H x y cD c d X P lim s) (ea : s.r 51 m = some a) (m4 : m < 400) (hm : s.i 32 = 0 → cnI s = (m : Int) + 1) : JSH H x y cD c d X P lim (CS.setI s 50 (s.o a 3)) := by
  have w := h.2.nmr (a := a) (m := m) ea m4 (fun q => by
    have := hm ((shs.i s 32 (by decide)).symm.trans q)
    rw [← this]; unfold cnI; rw [shs.i s 53 (by decide)])
  have e : shs (CS.setI s 50 (s.o a 3)) = CS.setI (shs s) 50 ((shs s).o a 3) := by
    show some (_, va_up (va_up s.i 50 (s.o a 3)) 34 20, _) = some (_, va_up (va_up s.i 34 20) 50 (s.o a 3), _)
    have : va_up (va_up s.i 50 (s.o a 3)) 34 20 = va_up (va_up s.i 34 20) 50 (s.o a 3) := by
      funext j
      show (if j = 34 then (20 : Int32) else if j = 50 then s.o a 3 else s.i j) = (if j = 50 then s.o a 3 else if j = 34 then 20 else s.i j)
      by_cases q : j = 34
      · rw [if_pos q, if_neg (by omega), if_pos q]
      · rw [if_neg q]
        by_cases q2 : j = 50
        · rw [if_pos q2, if_pos q2]
        · rw [if_neg q2, if_neg q2, if_neg q]
    rw [this]
    rfl
  refine ⟨?_, by rw [e]; exact w⟩
  have o3 := (h.1.2.2.2.2.2.2.2.1 m a m4 ea).2
  have yi : ∀ j : Nat, j ≠ 50 → (CS.setI s 50 (s.o a 3)).i j = s.i j := fun j q => ci_ne _ _ _ q
  have y50 : nmI (CS.setI s 50 (s.o a 3)) = (s.o a 3).toInt := by unfold nmI; rw [ci_at]
  obtain ⟨c1, c2, c3, c4, c5, c6, c7, c8, c9⟩ := h.1
  refine ⟨c1, c2, c3, c4, ?_, by rw [y50]; exact o3, c7, c8, ?_⟩
  · rw [yi 32 (by decide), yi 43 (by decide)]; exact c5
  · rw [yi 36 (by decide), yi 14 (by decide), yi 13 (by decide), yi 27 (by decide)]; exact c9
/-- back from all signs begun -/
theorem JSH.un {H : HB} {x y : Int} {cD c d : List Nat} {X : List (Nat × List Nat)} {P : List Nat} {lim : List Int} {s : CS} (h : JSH H x y cD c d X P lim s) (hs : s.i 32 = 0 → SGS s (cnI s).toNat ≤ sgI s ∧ 0 ≤ sgI s ∧ sgI s ≤ 20) : JK H x y cD c d X P lim s := by
  refine ⟨h.1, fun q => ?_⟩
  obtain ⟨g, n⟩ := h.2.2 ((shs.i s 32 (by decide)).trans q)
  have s3 := hs q
  have t9 : TS9 (shs s) s := ⟨⟨rfl, rfl, rfl, rfl, rfl, rfl, rfl, rfl, rfl, rfl⟩, fun j q1 q2 => (shs.i s j (by omega)).symm⟩
  have pl : plI (shs s) = plI s := by unfold plI; rw [shs.i s 44 (by decide)]
  have ee : eI (shs s) = eI s := by unfold eI; rw [pl, shs.i s 43 (by decide)]
  have cn : cnI (shs s) = cnI s := by unfold cnI; rw [shs.i s 53 (by decide)]
  have sg : SGS (shs s) (cnI (shs s)).toNat = SGS s (cnI s).toNat := by
    rw [cn]
    have rq : RSQ s (shs s) (cnI s).toNat := fun i _ => ⟨rfl, fun _ _ => ⟨rfl, rfl⟩⟩
    exact (rq.sums h.1.2.2.2.2.2.2.1.2.2).2.1
  refine ⟨g.ck h.2.1.1 t9.ck, t9.nb n h.2.1.1 ⟨h.2.1.2.2.2.2.2.2.1.1, h.2.1.2.2.2.2.2.2.1.2.1⟩ h.2.1.2.2.2.2.2.2.1.2.2 (by omega) (by omega) (by omega) (by omega) ⟨by rw [sg]; exact s3.1, s3.2⟩⟩
/-- a brace is closed, its row still stands -/
theorem q_closE {N : Nat} {H : HB} (hN : 1000 ≤ N) {x y : Int} {c : List Nat} {X : List (Nat × List Nat)} {P : List Nat} {lim : List Int} {σ : CS} (h : JJ H x y c X P lim σ) (nf : σ.i 32 = 0) (h1 : 1 ≤ sgI σ) : ok (f_X1_close N σ 125) (fun R => JSH H (x - 100) y c c c X P lim R.2 ∧ (R.2.r = σ.r ∧ R.2.o = σ.o ∧ R.2.ol = σ.ol) ∧ (R.2.i 32 = 0 → MDL 1 0 (-1) σ R.2 ∧ R.2.i 22 = σ.i 22 ∧ R.2.i 38 = σ.i 38 ∧ R.2.i 50 = σ.i 50)) := by
  unfold f_X1_close f_X1_close_22
  obtain ⟨g0, n0⟩ := h.2 nf
  refine ok_bind (q_found σ 125) (fun p hp => ?_)
  obtain ⟨p1, p2⟩ := hp
  rw [p1]
  rcases p2 with ⟨q1, q2⟩ | ⟨q1, q2⟩
  · rw [if_pos q1]
    refine ok_bind (q_misp h.1) (fun q hq => ok_some ?_)
    have cf : CBS H q.2 := (JJ.flt (x := x) (y := y) (c := c) (X := X) (P := P) (lim := lim) h.1 hq).1
    have nq : ¬ (CS.setI q.2 34 (q.2.i 34 - 1)).i 32 = 0 := by rw [ci_ne _ _ _ (by decide)]; exact hq.2.2.2.1
    exact ⟨JSH.flt (cf.s34 _) nq, ⟨by rw [cr_setI]; exact hq.1.2.2.2.2.2.2.2.1, by rw [co_setI]; exact hq.1.2.2.2.1, by rw [col_setI]; exact hq.1.2.2.2.2.1⟩, fun z => absurd z nq⟩
  · rw [q1, if_neg (by decide)]
    refine ok_bind (q_advC hN h.1) (fun q hq => ok_some ?_)
    obtain ⟨j, e⟩ := h.tk hq (fun _ => by rw [q2]; decide)
    have nfq := hq.f32.trans nf
    have ex := e nfq
    show JSH H (x - 100) y c c c X P lim (CS.setI q.2 34 (q.2.i 34 - 1)) ∧ _
    have Ri : ∀ j : Nat, j ≠ 34 → (CS.setI q.2 34 (q.2.i 34 - 1)).i j = q.2.i j := fun j hj => ci_ne _ _ _ hj
    have R34 : (CS.setI q.2 34 (q.2.i 34 - 1)).i 34 = q.2.i 34 - 1 := ci_at _ _ _
    have Rt : TS9 q.2 (CS.setI q.2 34 (q.2.i 34 - 1)) := (TS9.rf q.2).i34 _
    have Rs : TS9 q.2 (shs (CS.setI q.2 34 (q.2.i 34 - 1))) := Rt.i34 20
    have cR : CBS H (CS.setI q.2 34 (q.2.i 34 - 1)) := j.1.s34 _
    have ra : (CS.setI q.2 34 (q.2.i 34 - 1)).r = q.2.r := rfl
    have oa : (CS.setI q.2 34 (q.2.i 34 - 1)).o = q.2.o := rfl
    have la : (CS.setI q.2 34 (q.2.i 34 - 1)).ol = q.2.ol := rfl
    have aa : (CS.setI q.2 34 (q.2.i 34 - 1)).a = q.2.a := rfl
    generalize CS.setI q.2 34 (q.2.i 34 - 1) = R at *
    obtain ⟨gq, nq⟩ := j.2 nfq
    have plR : plI (shs R) = plI q.2 := by unfold plI; rw [shs.i R 44 (by decide), Ri 44 (by decide)]
    have eR : eI (shs R) = eI q.2 := by unfold eI; rw [plR, shs.i R 43 (by decide), Ri 43 (by decide)]
    have plR' : plI R = plI q.2 := by unfold plI; rw [Ri 44 (by decide)]
    have eR' : eI R = eI q.2 := by unfold eI; rw [plR', Ri 43 (by decide)]
    have s20 := shs.sg R
    have e1 : (1 : Int32).toInt = 1 := by decide
    have sgR : sgI R = sgI σ + -1 := by
      have w1 : (q.2.i 34).toInt = sgI σ := ex.sg
      have w2 := n0.2.2.2.1
      show (R.i 34).toInt = _
      rw [R34, toInt_sub] <;> rw [e1] <;> omega
    refine ⟨⟨cR, cR.s34 20, fun _ => ⟨gq.ck j.1.1 Rs.ck, Rs.nb nq j.1.1 ⟨j.1.2.2.2.2.2.2.1.1, j.1.2.2.2.2.2.2.1.2.1⟩ j.1.2.2.2.2.2.2.1.2.2 (by omega) (by omega) (by omega) (by omega) ⟨?_, by omega, by omega⟩⟩⟩, ⟨by rw [ra]; exact hq.1.1.2.2.2.2.2.2.2.1, by rw [oa]; exact hq.1.1.2.2.2.1, by rw [la]; exact hq.1.1.2.2.2.2.1⟩, fun _ => ⟨?_, ?_, ?_, ?_⟩⟩
    · have := nq.2.2.2.2.2.2.1
      have := nq.2.2.2.1.2
      omega
    · have m1 := ex.sx.mid
      obtain ⟨a0, ⟨a1, a2⟩, a3, ⟨a5, a6⟩, a9, a10, a11, a12, a13⟩ := m1
      refine ⟨a0, ⟨by show plI σ + 1 ≤ plI R; omega, by show eI σ + 0 ≤ eI R; omega⟩, sgR, ⟨(Ri 53 (by decide)).trans a5, (Ri 56 (by decide)).trans a6⟩, a9.tr (fun i _ => ⟨by rw [ra], fun b _ => ⟨by rw [oa], by rw [la]⟩⟩), by rw [aa]; exact a10, by rw [aa]; exact a11, by unfold ccI at *; rw [Ri 22 (by decide)]; exact a12, by unfold nmI at *; rw [Ri 50 (by decide)]; exact a13⟩
    · rw [Ri 22 (by decide)]; exact ex.2.2.1.2.2.2.2.2.1
    · rw [Ri 38 (by decide)]; exact ex.2.2.1.2.1
    · rw [Ri 50 (by decide)]; exact ex.2.2.1.2.2.1
