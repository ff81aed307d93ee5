/-! the class's reading: what a turn leaves -/
/-- no more than one row is new, and it is not one behind a try -/
def NWR (s R : CS) : Prop := cnI R ≤ cnI s + 1 ∧ (cnI R = cnI s + 1 → ∀ b : Nat, R.r 51 (cnI s).toNat = some b → ¬ R.o b 0 = 305)
def TNR (s R : CS) : Prop := s.i 32 = 0 ∧ (plI s ≤ plI R ∧ eI s ≤ eI R ∧ 2 * plI s + cnI R + 1 ≤ 2 * plI R + cnI s) ∧ sgI R - SGS R (cnI R).toNat = sgI s - SGS s (cnI s).toNat ∧ (cnI s ≤ cnI R + 1 ∧ 1 ≤ cnI s ∧ NWR s R) ∧ RSQ s R ((cnI s).toNat - 1) ∧ (∀ n : Nat, (n : Int) < nmI s → R.a 49 n = s.a 49 n) ∧ (∀ i : Nat, (i : Int) < ccI s → R.a 18 i = s.a 18 i ∧ R.a 19 i = s.a 19 i) ∧ R.i 56 = s.i 56
def TNQ (H : HB) (x y : Int) (X : List (Nat × List Nat)) (P : List Nat) (T : List Int) (s R : CS) : Prop := CBS H R ∧ (R.i 32 = 0 → (∃ c' : List Nat, JJ H x y c' X P (ccI R :: T) R) ∧ TNR s R)
theorem SRL.trn {s R : CS} (h : SRL s R) (h1 : 1 ≤ cnI s) : TNR s R := by
  obtain ⟨a0, ⟨a1, a1'⟩, a2, a3, a4, a5, a6, a7, a8, a9, a10⟩ := h
  exact ⟨a0, ⟨by omega, by omega, by omega⟩, a2, ⟨by omega, h1, a3.2, a10 (by omega)⟩, a4.lo (by omega), a5, a6, a7⟩
theorem STQ.tq {H : HB} {x y : Int} {X : List (Nat × List Nat)} {P : List Nat} {T : List Int} {s R : CS} (h : STQ H x y X P (ccI s :: T) s R) (h1 : 1 ≤ cnI s) : TNQ H x y X P T s R := by
  refine ⟨h.1, fun q => ?_⟩
  obtain ⟨⟨c', j⟩, r⟩ := h.2 q
  have e : ccI R = ccI s := by unfold ccI; rw [r.2.2.2.2.2.2.2.2.1]
  rw [← e] at j
  exact ⟨⟨c', j⟩, r.trn h1⟩
theorem TNQ.flt {H : HB} {x y : Int} {X : List (Nat × List Nat)} {P : List Nat} {T : List Int} {s t R : CS} (h : CBS H t) (hf : FLD t R) : TNQ H x y X P T s R := ⟨hf.t9.cb h hf.2.2.1 (fun _ => hf.2.2.2.2) (fun q => absurd q hf.2.2.2.1), fun q => absurd q hf.2.2.2.1⟩
/-- from the turn's start to a place in it: the rows below the innermost one stay -/
def MDL (p g d : Int) (s R : CS) : Prop := s.i 32 = 0 ∧ (plI s + p ≤ plI R ∧ eI s + g ≤ eI R) ∧ sgI R = sgI s + d ∧ (R.i 53 = s.i 53 ∧ R.i 56 = s.i 56) ∧ RSQ s R ((cnI s).toNat - 1) ∧ (∀ n : Nat, (n : Int) < nmI s → R.a 49 n = s.a 49 n) ∧ (∀ i : Nat, (i : Int) < ccI s → R.a 18 i = s.a 18 i ∧ R.a 19 i = s.a 19 i) ∧ (ccI s ≤ ccI R ∧ nmI s ≤ nmI R)
theorem SX.mid {p g d : Int} {s R : CS} (h : SX p g d s R) : MDL p g d s R := by
  obtain ⟨a0, a1, a3, ⟨a4, a5, a6, a7⟩, a8, a9, a10, a11⟩ := h
  exact ⟨a0, a1, a3, ⟨a5, a6⟩, a9.lo (by omega), a10, a11, by unfold ccI; rw [a7]; exact Int.le_refl _, a8⟩
theorem MDL.tr {p g d p' g' d' : Int} {s R T : CS} (h : MDL p g d s R) (k : MDL p' g' d' R T) : MDL (p + p') (g + g') (d + d') s T := by
  obtain ⟨a0, ⟨a1, a2⟩, a3, ⟨a5, a6⟩, a9, a10, a11, a12, a13⟩ := h
  obtain ⟨b0, ⟨b1, b2⟩, b3, ⟨b5, b6⟩, b9, b10, b11, b12, b13⟩ := k
  have ecn : cnI R = cnI s := by unfold cnI; rw [a5]
  rw [ecn] at b9
  exact ⟨a0, ⟨by omega, by omega⟩, by omega, ⟨b5.trans a5, b6.trans a6⟩, a9.tr b9, fun n hn => (b10 n (by omega)).trans (a10 n hn), fun i hi => ⟨(b11 i (by omega)).1.trans (a11 i hi).1, (b11 i (by omega)).2.trans (a11 i hi).2⟩, by omega, by omega⟩
theorem MDL.w {p g d p' g' d' : Int} {s R : CS} (h : MDL p g d s R) (hp : p' ≤ p) (hg : g' ≤ g) (hd : d' = d) : MDL p' g' d' s R := by
  obtain ⟨a0, ⟨a1, a2⟩, a3, a4⟩ := h
  exact ⟨a0, ⟨by omega, by omega⟩, by omega, a4⟩
/-- the innermost row's cell gets other numbers -/
theorem MDL.cel {s R : CS} {a m : Nat} {f : Nat → Int32} {l : Int64} (nf : s.i 32 = 0) (hr : REFS s) (hm : cnI s = (m : Int) + 1) (m4 : m < 400) (ea : s.r 51 m = some a) (h : OUV s R a f l) : MDL 0 0 0 s R := by
  obtain ⟨⟨a1, a2, a3, a4, a5, a6, a7, a8, a9, a10⟩, a11, a12, a13⟩ := h
  have epl : plI R = plI s := by unfold plI; rw [a10]
  have ee : eI R = eI s := by unfold eI; rw [epl, a10]
  have em : (cnI s).toNat - 1 = m := by omega
  refine ⟨nf, by omega, by unfold sgI; rw [a10]; omega, ⟨by rw [a10], by rw [a10]⟩, ?_, fun _ _ => by rw [a9], fun _ _ => by rw [a9]; exact ⟨rfl, rfl⟩, by unfold ccI; rw [a10]; exact Int.le_refl _, by unfold nmI; rw [a10]; exact Int.le_refl _⟩
  rw [em]
  intro i hi
  refine ⟨by rw [a5], fun b eb => ?_⟩
  exact a11 b (fun z => by
    rw [z] at eb
    have := hr.2.2.1 i m a (by omega) m4 eb ea
    omega)
/-- the number of names goes back to the innermost row's -/
theorem JK.nmr {H : HB} {x y : Int} {cD c d : List Nat} {X : List (Nat × List Nat)} {P : List Nat} {lim : List Int} {s : CS} {a m : Nat} (h : JK H x y cD c d X P lim s) (ea : s.r 51 m = some a) (m4 : m < 400) (hm : s.i 32 = 0 → cnI s = (m : Int) + 1) : JK H x y cD c d X P lim (CS.setI s 50 (s.o a 3)) := by
  have o3 := (h.1.2.2.2.2.2.2.2.1 m a m4 ea).2
  have yi : ∀ j : Nat, j ≠ 50 → (CS.setI s 50 (s.o a 3)).i j = s.i j := fun j q => ci_ne _ _ _ q
  have y50 : nmI (CS.setI s 50 (s.o a 3)) = (s.o a 3).toInt := by unfold nmI; rw [ci_at]
  have ya : (CS.setI s 50 (s.o a 3)).a = s.a := ca_setI ..
  have yr : (CS.setI s 50 (s.o a 3)).r = s.r := cr_setI ..
  have yo : (CS.setI s 50 (s.o a 3)).o = s.o := co_setI ..
  have yl : (CS.setI s 50 (s.o a 3)).ol = s.ol := col_setI ..
  have cb : CBS H (CS.setI s 50 (s.o a 3)) := by
    obtain ⟨c1, c2, c3, c4, c5, c6, c7, c8, c9⟩ := h.1
    refine ⟨c1, c2, c3, c4, ?_, by rw [y50]; exact o3, c7, c8, ?_⟩
    · rw [yi 32 (by decide), yi 43 (by decide)]; exact c5
    · rw [yi 36 (by decide), yi 14 (by decide), yi 13 (by decide), yi 27 (by decide)]; exact c9
  generalize CS.setI s 50 (s.o a 3) = R at *
  refine ⟨cb, fun q => ?_⟩
  have q' := (yi 32 (by decide)).symm.trans q
  obtain ⟨g, n⟩ := h.2 q'
  have hm := hm q'
  have ecn : cnI R = cnI s := by unfold cnI; rw [yi 53 (by decide)]
  have etc : tcI R = tcI s := by unfold tcI; rw [yi 21 (by decide)]
  have ecc : ccI R = ccI s := by unfold ccI; rw [yi 22 (by decide)]
  have esz : szI R = szI s := by unfold szI; rw [yi 20 (by decide)]
  have esg : sgI R = sgI s := by unfold sgI; rw [yi 34 (by decide)]
  have eds : dsI R = dsI s := by unfold dsI; rw [yi 38 (by decide)]
  have epl : plI R = plI s := by unfold plI; rw [yi 44 (by decide)]
  have ee : eI R = eI s := by unfold eI; rw [epl, yi 43 (by decide)]
  have rq : ∀ k : Nat, RSQ s R k := fun k i _ => ⟨by rw [yr], fun b _ => ⟨by rw [yo], by rw [yl]⟩⟩
  have nr := h.1.2.2.2.2.2.2.1.2.2
  refine ⟨?_, ?_⟩
  · obtain ⟨D, DT, KT, h1, h2, h3, h4, h5, ⟨k, k1, k2, k3⟩, h7, h8, h9, h10⟩ := g
    have top := (h10 m a (by omega) ea).1
    refine ⟨D, DT, KT, ?_, ?_, fun t q1 q2 q3 => ?_, by rw [esz]; exact h4, by rw [etc]; exact h5, ⟨k, by rw [ecn]; exact k1, k2, ?_⟩, fun i hi => ?_, by rw [etc]; exact h8, by rw [ecc]; exact h9, fun i b hi e => ?_⟩
    · unfold CDT at *; rw [ya, etc, esz]; exact h1
    · unfold TGS at *; rw [ya, etc, esz]; exact h2
    · rw [etc] at q1
      rw [ya] at q3
      rcases h3 t q1 q2 q3 with z | z
      · exact Or.inl z
      · exact Or.inr (z.of (by omega) (fun i b _ e => ⟨by rw [yr]; exact e, by rw [yo]⟩))
    · exact k3.mono (by omega) (fun _ _ => ⟨rfl, Iff.rfl⟩) (fun t _ q => by rw [ya]; exact q) (rq k) (fun _ _ => by rw [ya]) (fun _ _ _ _ _ _ => by rw [ya]) k3.nr
    · rw [y50] at hi
      rw [ya]
      exact h7 i (by omega)
    · rw [yr] at e
      rw [ecn] at hi
      have z := h10 i b hi e
      rw [y50, yo]
      refine ⟨?_, fun j b' y1 y2 y3 => ?_⟩
      · by_cases ci : i = m
        · rw [ci, ea] at e
          cases e
          exact Int.le_refl _
        · exact z.2 m a (by omega) (by omega) ea
      · rw [yr] at y3
        rw [ecn] at y2
        exact z.2 j b' y1 y2 y3
  · obtain ⟨i1, i2, i3, i4, i5⟩ := (rq (cnI s).toNat).sums nr
    obtain ⟨c1, c2, c3, c4, c5, c6, c7, c8, c9⟩ := n
    exact ⟨by omega, by omega, by omega, by omega, by rw [ecn]; exact c5.of (rq _) nr, by rw [ecn, i1, ee]; exact c6, by rw [ecn, i2, esg]; exact c7, by rw [eds]; exact c8, by rw [yi 56 (by decide), ecn, yr, yo]; exact c9⟩
theorem sgn.ge (s : CS) (a : Nat) : 0 ≤ sgn s a ∧ 0 ≤ cost s a := by
  refine ⟨?_, ?_⟩
  · unfold sgn
    by_cases q : s.o a 0 = 302
    · rw [if_pos q]; decide
    · rw [if_neg q]
      by_cases q2 : s.o a 0 = 301 ∨ s.o a 0 = 212 ∨ s.o a 0 = 218 ∨ s.o a 0 = 213 ∨ s.o a 0 = 215 ∨ s.o a 0 = 216
      · rw [if_pos q2]; decide
      · rw [if_neg q2]; decide
  · unfold cost
    by_cases q : s.o a 0 = 300 ∨ s.o a 0 = 301
    · rw [if_pos q]; decide
    · rw [if_neg q]
      by_cases q2 : s.o a 0 = 302
      · rw [if_pos q2]; decide
      · rw [if_neg q2]
        by_cases q3 : s.o a 0 = 303 ∧ 97 ≤ (s.ol a).toInt ∧ (s.ol a).toInt ≤ 122
        · rw [if_pos q3]; decide
        · rw [if_neg q3]; decide
theorem q_popC (N : Nat) {H : HB} {s : CS} (h : CBS H s) : ok (f_X6_pop N s) (fun R => CBS H R.2 ∧ (1 ≤ cnI s → R.2 = CS.setI s 53 (s.i 53 - 1) ∧ cnI R.2 = cnI s - 1) ∧ R.2.i 32 = s.i 32) := by
  have cn := h.2.2.2.2.2.2.1
  by_cases z : 1 ≤ cnI s
  · refine ok_imp (q_pop6 N s ⟨z, cn.2.1⟩) (fun R hR => ?_)
    rw [hR.1]
    exact ⟨h.sh _ ⟨by rw [hR.2]; omega, by rw [hR.2]; omega⟩, fun _ => ⟨rfl, by unfold cnI; rw [ci_at]; exact hR.2⟩, ci_ne _ _ _ (by decide)⟩
  · unfold f_X6_pop
    have e0 : cnI s = 0 := by omega
    have e53 : s.i 53 = 0 := Int32.toInt_inj.mp (by rw [z_t0]; exact e0)
    refine ok_some ⟨?_, fun q => absurd q z, ci_ne _ _ _ (by decide)⟩
    have e : (if 0 < (s.i 53) - 1 then (s.i 53) - 1 else 0) = (0 : Int32) := by rw [e53]; decide
    show CBS H (CS.setI s 53 (if 0 < (s.i 53) - 1 then (s.i 53) - 1 else 0))
    rw [e]
    exact h.sh 0 ⟨by decide, by rw [z_t0]; omega⟩
/-- the innermost row goes -/
theorem JK.pop {H : HB} {x y : Int} {cD c d cc : List Nat} {X : List (Nat × List Nat)} {P : List Nat} {lim ll : List Int} {s R : CS} {a m : Nat} (h : JK H x y cD c d X P lim s) (nf : s.i 32 = 0) (hb : CBS H R) (hm : cnI s = (m : Int) + 1) (ea : s.r 51 m = some a) (eR : R = CS.setI s 53 (s.i 53 - 1)) (hc : cnI R = (m : Int)) (hO : ∀ k : Nat, (k : Int) < tcI s → (s.a 17 k).toInt = -1 → OWS s a k → k ∈ P) (hcl : ∀ (DT : Nat → List Nat) (KT : Nat → Prop) (c0 : List Nat) (lim0 : List Int), ROW1 s DT KT a c0 c lim lim0 → c0 = cc ∧ lim0 = ll) (hN : ∀ n : Nat, (n : Int) < nmI s → (n : Int) < (s.o a 3).toInt ∨ c = cc) (h56 : (s.i 56).toInt < (m : Int)) (hll : lmh ll ≤ ccI s) : JK H (x - 50) y cD cc d X P ll R := by
  obtain ⟨g, n⟩ := h.2 nf
  have Ri : ∀ j : Nat, j ≠ 53 → R.i j = s.i j := fun j hj => by rw [eR]; exact ci_ne _ _ _ hj
  have Ra : R.a = s.a := by rw [eR]; exact ca_setI ..
  have Rr : R.r = s.r := by rw [eR]; exact cr_setI ..
  have Ro : R.o = s.o := by rw [eR]; exact co_setI ..
  have Rl : R.ol = s.ol := by rw [eR]; exact col_setI ..
  have rq : RSQ s R m := fun i _ => ⟨by rw [Rr], fun b _ => ⟨by rw [Ro], by rw [Rl]⟩⟩
  refine ⟨hb, fun _ => ⟨?_, ?_⟩⟩
  · obtain ⟨b, c0, lim0, w1, ⟨DT, KT, w2, w3⟩, w4, w5⟩ := g.pop (R := R) (m := m) (P' := P) hm.symm ⟨⟨by rw [Ra], by rw [Ra], by rw [Ra], by rw [Ra], by rw [Ra]⟩, Ri 20 (by decide), Ri 21 (by decide), Ri 50 (by decide), Ri 22 (by decide)⟩ hc rq (fun _ z => z) (fun b k e1 e2 e3 e4 => by
      rw [ea] at e1
      cases e1
      exact hO k e2 e3 e4) (fun c0 lim0 b e1 ⟨DT, KT, e2⟩ k hk z => by
      rw [ea] at e1
      cases e1
      have e := (hcl DT KT c0 lim0 e2).1
      rcases hN k hk with q | q
      · exact e2.2.1 k q
      · rw [e, ← q]; exact z)
    rw [ea] at w1
    cases w1
    obtain ⟨e1, e2⟩ := hcl DT KT c0 lim0 w2
    rw [e1, e2] at w5
    exact w5
  · have nr : NR s m := fun i hi => h.1.2.2.2.2.2.2.1.2.2 i (by omega)
    obtain ⟨i1, i2, i3, i4, i5⟩ := rq.sums nr
    obtain ⟨c1, c2, c3, c4, c5, c6, c7, c8, c9⟩ := n
    have em : (cnI s).toNat = m + 1 := by omega
    have emR : (cnI R).toNat = m := by omega
    rw [em] at c5 c6 c7
    have cw : WCS s (m + 1) = WCS s m + cost s (rowA s m) := rfl
    have sw : SGS s (m + 1) = SGS s m + sgn s (rowA s m) := rfl
    have ge := sgn.ge s (rowA s m)
    have etc : tcI R = tcI s := by unfold tcI; rw [Ri 21 (by decide)]
    have ecc : ccI R = ccI s := by unfold ccI; rw [Ri 22 (by decide)]
    have esz : szI R = szI s := by unfold szI; rw [Ri 20 (by decide)]
    have esg : sgI R = sgI s := by unfold sgI; rw [Ri 34 (by decide)]
    have eds : dsI R = dsI s := by unfold dsI; rw [Ri 38 (by decide)]
    have epl : plI R = plI s := by unfold plI; rw [Ri 44 (by decide)]
    have ee : eI R = eI s := by unfold eI; rw [epl, Ri 43 (by decide)]
    refine ⟨by omega, by omega, by omega, by omega, by rw [emR]; exact IQ.of (fun j hj => c5 j (by omega)) rq nr, by rw [emR, i1, ee]; omega, by rw [emR, i2, esg]; omega, by rw [eds]; exact c8, ?_⟩
    rw [Ri 56 (by decide), Rr, Ro]
    exact ⟨c9.1, by omega, c9.2.2⟩
