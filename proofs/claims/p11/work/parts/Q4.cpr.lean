/-! the class's reading: a row that is not counted yet -/
theorem JK.rsq {H : HB} {x y : Int} {cD c d : List Nat} {X : List (Nat × List Nat)} {P : List Nat} {lim : List Int} {s R : CS} (h : JK H x y cD c d X P lim s) (hb : CBS H R) (h32 : R.i 32 = s.i 32) (hs : s.i 32 = 0 → SCD s R ∧ RSQ s R (cnI s).toNat ∧ (R.i 34 = s.i 34 ∧ R.i 38 = s.i 38 ∧ R.i 43 = s.i 43 ∧ R.i 44 = s.i 44 ∧ R.i 53 = s.i 53 ∧ R.i 56 = s.i 56)) : JK H x y cD c d X P lim R := by
  refine ⟨hb, fun q => ?_⟩
  have q' := h32.symm.trans q
  obtain ⟨g, n⟩ := h.2 q'
  obtain ⟨⟨⟨e1, e2, e3, e4, e5⟩, ⟨e6, e7, e8, e9⟩⟩, rq, ⟨f1, f2, f3, f4, f5, f6⟩⟩ := hs q'
  have nr := h.1.2.2.2.2.2.2.1.2.2
  have cn0 := h.1.2.2.2.2.2.2.1.1
  have ecn : cnI R = cnI s := by unfold cnI; rw [f5]
  have etc : tcI R = tcI s := by unfold tcI; rw [e7]
  have ecc : ccI R = ccI s := by unfold ccI; rw [e9]
  have esz : szI R = szI s := by unfold szI; rw [e6]
  have enm : nmI R = nmI s := by unfold nmI; rw [e8]
  have esg : sgI R = sgI s := by unfold sgI; rw [f1]
  have eds : dsI R = dsI s := by unfold dsI; rw [f2]
  have epl : plI R = plI s := by unfold plI; rw [f4]
  have ee : eI R = eI s := by unfold eI; rw [epl, f3]
  have back : ∀ i a : Nat, (i : Int) < cnI s → R.r 51 i = some a → s.r 51 i = some a ∧ R.o a = s.o a := fun i a hi e => by
    have w := rq i (by omega)
    have z := w.1.symm.trans e
    exact ⟨z, (w.2 a z).1⟩
  refine ⟨?_, ?_⟩
  · obtain ⟨D, DT, KT, h1, h2, h3, h4, h5, ⟨m, m1, m2, m3⟩, h7, h8, h9, h10⟩ := g
    have em : m = (cnI s).toNat := by omega
    refine ⟨D, DT, KT, ?_, ?_, fun t q1 q2 q3 => ?_, by rw [esz]; exact h4, by rw [etc]; exact h5, ⟨m, by rw [ecn]; exact m1, m2, ?_⟩, by rw [enm, e5]; exact h7, by rw [etc]; exact h8, by rw [ecc]; exact h9, h10.of ecn enm (fun i a hi e => back i a hi e)⟩
    · unfold CDT at *; rw [e1, e2, etc, esz]; exact h1
    · unfold TGS at *; rw [e3, etc, esz]; exact h2
    · rw [etc] at q1
      rw [e3] at q3
      rcases h3 t q1 q2 q3 with z | z
      · exact Or.inl z
      · exact Or.inr (z.of (by omega) (fun i a hi e => by
          have w := rq i (by omega)
          exact ⟨w.1.trans e, (w.2 a e).1⟩))
    · exact m3.mono (by omega) (fun _ _ => ⟨rfl, Iff.rfl⟩) (fun t _ q => by rw [e3]; exact q) (by rw [em]; exact rq) (fun k _ => by rw [e4]) (fun _ _ _ _ k _ => by rw [e5]) m3.nr
  · obtain ⟨i1, i2, i3, i4, i5⟩ := rq.sums nr
    obtain ⟨c1, c2, c3, c4, c5, c6, c7, c8, c9⟩ := n
    refine ⟨by omega, by omega, by omega, by omega, by rw [ecn]; exact c5.of rq nr, by rw [ecn, i1, ee]; exact c6, by rw [ecn, i2, esg]; exact c7, by rw [eds]; exact c8, ?_⟩
    rw [f6, ecn]
    refine ⟨c9.1, c9.2.1, fun b q1 q2 => ?_⟩
    have w := back _ b (by have := c9.2.1; omega) q2
    rw [w.2]
    exact c9.2.2 b q1 w.1
theorem CBS.sh {H : HB} {s : CS} (h : CBS H s) (v : Int32) (hv : 0 ≤ v.toInt ∧ v.toInt ≤ cnI s) : CBS H (CS.setI s 53 v) := by
  obtain ⟨c1, c2, c3, c4, c5, c6, ⟨c7, c7', c7''⟩, c8, c9⟩ := h
  have e : cnI (CS.setI s 53 v) = v.toInt := by unfold cnI; rw [ci_at]
  have n : ∀ j : Nat, j ≠ 53 → (CS.setI s 53 v).i j = s.i j := fun j hj => ci_ne _ _ _ hj
  refine ⟨c1, c2, c3, c4, ?_, c6, ⟨by omega, by omega, fun i hi => c7'' i (by omega)⟩, c8, ?_⟩
  · rw [n 32 (by decide), n 43 (by decide)]; exact c5
  · rw [n 36 (by decide), n 14 (by decide), n 13 (by decide), n 27 (by decide)]; exact c9
theorem NTG.sh {s R : CS} (h : NTG s R) (v : Int32) : NTG (CS.setI s 53 v) (CS.setI R 53 v) := by
  obtain ⟨b, b11, b12, b13, b14⟩ := h
  refine ⟨b, fun j hj => ?_, ?_, b13, ?_⟩
  · by_cases q : j = 53
    · rw [q, ci_at, ci_at]
    · rw [ci_ne _ _ _ q, ci_ne _ _ _ q]; exact b11 j hj
  · rw [ci_ne _ _ _ (by decide), ci_ne _ _ _ (by decide)]; exact b12
  · rw [ca_setI, ca_setI, ci_ne _ _ _ (by decide)]; exact b14
theorem ADD.sh {s R : CS} {o x : Int32} (h : ADD s R o x) (v : Int32) : ADD (CS.setI s 53 v) (CS.setI R 53 v) o x := by
  obtain ⟨b, b11, b12, b13, b14, b15⟩ := h
  refine ⟨b, fun j hj => ?_, ?_, b13, ?_, ?_⟩
  · by_cases q : j = 53
    · rw [q, ci_at, ci_at]
    · rw [ci_ne _ _ _ q, ci_ne _ _ _ q]; exact b11 j hj
  · rw [ci_ne _ _ _ (by decide), ci_ne _ _ _ (by decide)]; exact b12
  · rw [ca_setI, ca_setI, ci_ne _ _ _ (by decide)]; exact b14
  · rw [ca_setI, ca_setI, ci_ne _ _ _ (by decide)]; exact b15
theorem AIM.sh {s R : CS} {t : Int32} (h : AIM s R t) (v : Int32) : AIM (CS.setI s 53 v) (CS.setI R 53 v) t := by
  obtain ⟨b, b11, b13, b14⟩ := h
  refine ⟨b, ?_, b13, ?_⟩
  · show va_up R.i 53 v = va_up s.i 53 v
    rw [b11]
  · rw [ca_setI, ca_setI, ci_ne _ _ _ (by decide)]; exact b14
theorem ADV.sh {s R : CS} (h : ADV s R) (v : Int32) : ADV (CS.setI s 53 v) (CS.setI R 53 v) := by
  obtain ⟨⟨b, b1⟩, h2, h3, h4, h5⟩ := h
  refine ⟨⟨b, fun j q1 q2 q3 q4 => ?_⟩, h2, ?_, ?_, ?_⟩
  · by_cases q : j = 53
    · rw [q, ci_at, ci_at]
    · rw [ci_ne _ _ _ q, ci_ne _ _ _ q]; exact b1 j q1 q2 q3 q4
  · rw [ci_ne _ _ _ (by decide), ci_ne _ _ _ (by decide)]; exact h3
  · rw [ci_ne _ _ _ (by decide), ci_ne _ _ _ (by decide), ci_ne _ _ _ (by decide), ci_ne _ _ _ (by decide)]; exact h4
  · rw [ci_ne _ _ _ (by decide), ci_ne _ _ _ (by decide)]; exact h5
/-- a cell's number is set -/
theorem CBS.o {H : HB} {s : CS} (h : CBS H s) (a k : Nat) (w : Int32) (hb : (5 ≤ k ∧ k ≤ 8) → bo w) (h3 : k = 3 → 0 ≤ w.toInt ∧ w.toInt ≤ 128) : CBS H (CS.setO s a k w) := by
  obtain ⟨c1, c2, c3, c4, c5, c6, c7, c8, c9⟩ := h
  refine ⟨c1, c2, c3, c4, c5, c6, c7, fun i b hi e => ?_, c9⟩
  have z := c8 i b hi e
  have o1 : ∀ j : Nat, (CS.setO s a k w).o b j = if b = a then (if j = k then w else s.o a j) else s.o b j := fun j => by
    by_cases q : b = a
    · rw [if_pos q, q]
      show va_up s.o a (upd (s.o a) k w) a j = _
      rw [show va_up s.o a (upd (s.o a) k w) a = upd (s.o a) k w from if_pos rfl]
      rfl
    · rw [if_neg q]
      show va_up s.o a (upd (s.o a) k w) b j = _
      rw [show va_up s.o a (upd (s.o a) k w) b = s.o b from if_neg q]
  have one : ∀ j : Nat, 5 ≤ j → j ≤ 8 → bo (s.o b j) → bo ((CS.setO s a k w).o b j) := fun j j1 j2 hj => by
    rw [o1]
    by_cases q : b = a
    · rw [if_pos q]
      by_cases q2 : j = k
      · rw [if_pos q2]; exact hb (by omega)
      · rw [if_neg q2, ← q]; exact hj
    · rw [if_neg q]; exact hj
  refine ⟨⟨one 5 (by omega) (by omega) z.1.1, one 6 (by omega) (by omega) z.1.2.1, one 7 (by omega) (by omega) z.1.2.2.1, one 8 (by omega) (by omega) z.1.2.2.2⟩, ?_⟩
  rw [o1]
  by_cases q : b = a
  · rw [if_pos q]
    by_cases q2 : 3 = k
    · rw [if_pos q2]; exact h3 q2.symm
    · rw [if_neg q2, ← q]; exact z.2
  · rw [if_neg q]; exact z.2
theorem CBS.ol {H : HB} {s : CS} (h : CBS H s) (a : Nat) (w : Int64) : CBS H (CS.setOl s a w) := h
theorem oK.o {s : CS} {a b t k : Nat} {w : Int32} (h : oK s b t) : oK (CS.setO s a k w) b t := h
/-- a row a that is made at m, but not counted yet -/
def PRK (H : HB) (x y : Int) (cD c d : List Nat) (X : List (Nat × List Nat)) (P : List Nat) (lim : List Int) (v : Int32) (m a : Nat) (s : CS) : Prop := CBS H s ∧ (oK s a 0 ∧ s.r 51 m = some a ∧ m < 400 ∧ 0 ≤ v.toInt ∧ v.toInt ≤ cnI s) ∧ (s.i 32 = 0 → v.toInt = (m : Int) ∧ cnI s = (m : Int) + 1) ∧ JK H x y cD c d X P lim (CS.setI s 53 v)
theorem PRK.w {H : HB} {x y x' y' : Int} {cD c d : List Nat} {X : List (Nat × List Nat)} {P : List Nat} {lim : List Int} {v : Int32} {m a : Nat} {s : CS} (h : PRK H x y cD c d X P lim v m a s) (hx : x ≤ x') (hy : y ≤ y') : PRK H x' y' cD c d X P lim v m a s := ⟨h.1, h.2.1, h.2.2.1, h.2.2.2.w hx hy⟩
theorem q_pushK {N : Nat} {H : HB} {x y : Int} {cD c d : List Nat} {X : List (Nat × List Nat)} {P : List Nat} {lim : List Int} {s : CS} (h : JK H x y cD c d X P lim s) (x1 x2 x3 : Int32) (h3 : 0 ≤ x3.toInt ∧ x3.toInt ≤ 128) : ok (f_X6_push N s x1 x2 x3) (fun R => ∃ a m : Nat, R.1 = some a ∧ PRK H x y cD c d X P lim (if (399 : Int32) < s.i 53 then (399 : Int32) else s.i 53) m a R.2 ∧ PSH s R.2 a m x1 x2 x3) := by
  refine ok_imp (q_psh h.1 x1 x2 x3 h3) (fun R hR => ?_)
  obtain ⟨a, m, r1, ⟨m4, mc, mc2⟩, cb, ps⟩ := hR
  refine ⟨a, m, r1, ?_, ps⟩
  obtain ⟨⟨p1, p2, p3⟩, p4, p5, p6, p7, p8, p9, p10⟩ := ps
  have cn := h.1.2.2.2.2.2.2.1
  have e399 : (399 : Int32).toInt = 399 := by decide
  obtain ⟨v, hv⟩ : ∃ v : Int32, v = (if (399 : Int32) < (s.i 53) then (399 : Int32) else (s.i 53)) := ⟨_, rfl⟩
  have v0 : (0 ≤ v.toInt ∧ v.toInt ≤ 399 ∧ v.toInt ≤ cnI s) ∧ (cnI s ≤ 399 → v = s.i 53) := by
    have cn0 : 0 ≤ (s.i 53).toInt := cn.1
    by_cases q : (399 : Int32) < s.i 53
    · have l := lt_int q
      rw [e399] at l
      have l' : 399 < cnI s := l
      rw [hv, if_pos q, e399]
      exact ⟨by omega, fun z => by omega⟩
    · have l := le_int (Int32.not_lt.mp q)
      rw [e399] at l
      rw [hv, if_neg q]
      exact ⟨⟨cn0, l, Int.le_refl _⟩, fun _ => rfl⟩
  rw [← hv]
  clear hv
  have nfb : s.i 32 = 0 → cnI s ≤ 399 := fun q => by
    have n := (h.2 q).2
    have b := n.2.2.2.2.1.bound (by
      have := n.2.2.2.2.2.1
      have e := eI.ge s
      have a := h.1.2.2.1.2.1
      have b := h.1.2.2.1.1
      have : plI s ≤ 900 := by unfold plI; omega
      omega) (by have := n.2.2.2.2.2.2.1; have := n.2.2.2.1.2; omega)
    omega
  have e32 : R.2.i 32 = s.i 32 := p4 32 (by decide) (by decide)
  have vm : v.toInt ≤ (m : Int) := by
    by_cases q : cnI s ≤ 399
    · have := mc q; have := v0.1; omega
    · have := mc2 (by omega)
      have := v0.1.2.1
      omega
  refine ⟨cb, ⟨p8, p6, m4, v0.1.1, by omega⟩, fun q => ?_, ?_⟩
  · have q' := nfb (e32.symm.trans q)
    have e := mc q'
    rw [v0.2 q']
    exact ⟨e.symm, p5⟩
  · refine h.rsq (cb.sh v ⟨v0.1.1, by omega⟩) ((ci_ne _ _ _ (by decide)).trans e32) (fun q => ?_)
    have q' := nfb q
    have e := mc q'
    have n : ∀ j : Nat, j ≠ 53 → j ≠ 54 → (CS.setI R.2 53 v).i j = s.i j := fun j j1 j2 => (ci_ne _ _ _ j1).trans (p4 j j1 j2)
    refine ⟨⟨⟨?_, ?_, ?_, ?_, ?_⟩, ⟨n 20 (by decide) (by decide), n 21 (by decide) (by decide), n 50 (by decide) (by decide), n 22 (by decide) (by decide)⟩⟩, fun i hi => ?_, n 34 (by decide) (by decide), n 38 (by decide) (by decide), n 43 (by decide) (by decide), n 44 (by decide) (by decide), (ci_at _ _ _).trans (v0.2 q'), n 56 (by decide) (by decide)⟩
    · rw [ca_setI, p1]
    · rw [ca_setI, p1]
    · rw [ca_setI, p1]
    · rw [ca_setI, p1]
    · rw [ca_setI, p1]
    · have ne : i ≠ m := by omega
      refine ⟨by rw [cr_setI]; exact p7 i ne, fun b eb => ?_⟩
      have w := p9 i b (by omega) ne eb
      exact ⟨by rw [co_setI]; exact w.2.1, by rw [col_setI]; exact w.2.2⟩
