/-! the class's reading: the innermost row changes -/
theorem GW.top {cD c c' : List Nat} {X : List (Nat × List Nat)} {P P' : List Nat} {lim lim1 : List Int} {s R : CS} {a m : Nat} (h : GW cD c X P lim s) (hm : cnI s = (m : Int) + 1) (hs : SCD s R) (hc : cnI R = cnI s) (ea : s.r 51 m = some a) (eR : R.r 51 m = some a) (hr : RSQ s R m) (hR : ∀ (DT : Nat → List Nat) (KT : Nat → Prop) (c0 : List Nat) (lim0 : List Int), (∀ q ∈ X, (q.1 : Int) < tcI s ∧ DT q.1 = q.2 ∧ ¬ KT q.1) → ROW1 s DT KT a c0 c lim lim0 → ROW1 R DT KT a c0 c' lim1 lim0) (hP : ∀ k ∈ P, k ∈ P' ∨ OWS R a k) (hO : ∀ k : Nat, (k : Int) < tcI s → OWS s a k → (s.a 17 k).toInt = -1 → k ∈ P' ∨ OWS R a k) (hN : ∀ n : Nat, (n : Int) < nmI s → NMT (s.a 49 n) c → NMT (s.a 49 n) c') (hi : lmh lim1 ≤ ccI s) (h3 : R.o a 3 = s.o a 3) (hax : arx R a = arx s a) : GW cD c' X P' lim1 R := by
  obtain ⟨D, DT, KT, h1, h2, h3', h4, h5, ⟨n, n1, n2, n3⟩, h7, h8, h9, h10⟩ := h
  obtain ⟨⟨e1, e2, e3, e4, e5⟩, ⟨e6, e7, e8, e9⟩⟩ := hs
  have en : n = m + 1 := by omega
  rw [en] at n3
  obtain ⟨b, c0, lim0, r1, r2, r3, r4⟩ := n3
  rw [ea] at r1
  cases r1
  have etc : tcI R = tcI s := by unfold tcI; rw [e7]
  have esz : szI R = szI s := by unfold szI; rw [e6]
  have enm : nmI R = nmI s := by unfold nmI; rw [e8]
  have ecc : ccI R = ccI s := by unfold ccI; rw [e9]
  have nr := r4.nr
  refine ⟨D, DT, KT, ?_, ?_, fun t q1 q2 q3 => ?_, by rw [esz]; exact h4, by rw [etc]; exact h5, ⟨m + 1, by omega, by omega, a, c0, lim0, eR, ?_, hR DT KT c0 lim0 h5 r3, ?_⟩, fun k hk => ?_, by rw [etc]; exact h8, by rw [ecc]; exact hi, fun i d hi' e => ?_⟩
  · unfold CDT at *; rw [e1, e2, etc, esz]; exact h1
  · unfold TGS at *; rw [e3, etc, esz]; exact h2
  · rw [etc] at q1
    rw [e3] at q3
    rcases h3' t q1 q2 q3 with z | ⟨i, d, z1, z2, z3⟩
    · rcases hP t z with w | w
      · exact Or.inl w
      · exact Or.inr ⟨m, a, by omega, eR, w⟩
    · by_cases ei : i = m
      · rw [ei, ea] at z2
        cases z2
        rcases hO t q1 z3 q3 with w | w
        · exact Or.inl w
        · exact Or.inr ⟨m, a, by omega, eR, w⟩
      · have q := hr i (by omega)
        exact Or.inr ⟨i, d, by omega, q.1.trans z2, by unfold OWS at *; rw [(q.2 d z2).1]; exact z3⟩
  · rw [(hr.sums nr).2.1, hax]
    exact r2
  · exact r4.mono (by omega) (fun _ _ => ⟨rfl, Iff.rfl⟩) (fun t _ q => by rw [e3]; exact q) hr (fun k _ => by rw [e4]) (fun _ _ _ _ k _ => by rw [e5]) nr
  · rw [enm] at hk
    rw [e5]
    exact hN k hk (h7 k hk)
  · have old : ∀ j d : Nat, (j : Int) < cnI s → R.r 51 j = some d → s.r 51 j = some d ∧ R.o d 3 = s.o d 3 := fun j d hj ej => by
      by_cases cj : j = m
      · rw [cj, eR] at ej
        cases ej
        rw [cj]
        exact ⟨ea, h3⟩
      · have q := hr j (by omega)
        have z := q.1.symm.trans ej
        exact ⟨z, by rw [(q.2 d z).1]⟩
    rw [hc] at hi'
    have q := old i d hi' e
    have z := h10 i d hi' q.1
    rw [enm, q.2]
    refine ⟨z.1, fun j b' y1 y2 y3 => ?_⟩
    rw [hc] at y2
    have w := old j b' y2 y3
    rw [w.2]
    exact z.2 j b' y1 y2 w.1
theorem NB.top {x y : Int} {d d' : List Nat} {s R : CS} {a m : Nat} (hn : NB x y d s) (hm : cnI s = (m : Int) + 1) (ea : s.r 51 m = some a) (eR : R.r 51 m = some a) (hr : RSQ s R m) (nr : NR s m) (hi : R.i 20 = s.i 20 ∧ R.i 21 = s.i 21 ∧ R.i 22 = s.i 22 ∧ R.i 34 = s.i 34 ∧ R.i 43 = s.i 43 ∧ R.i 44 = s.i 44 ∧ R.i 53 = s.i 53 ∧ R.i 56 = s.i 56) (hd : (d'.length : Int) = dsI R ∧ d'.length ≤ 21) (hl : R.ol a = s.ol a) (hs : R.o a 0 = s.o a 0 ∨ ((¬ R.o a 0 = 300 ∧ ¬ R.o a 0 = 301 ∧ ¬ R.o a 0 = 302 ∧ ¬ R.o a 0 = 303) ∧ (¬ s.o a 0 = 300 ∧ ¬ s.o a 0 = 301 ∧ ¬ s.o a 0 = 302 ∧ ¬ s.o a 0 = 303))) (hg : SGS R (m + 1) ≤ sgI s) : NB x y d' R := by
  obtain ⟨f1, f2, f3, f4, f5, f6, f7, f8⟩ := hi
  have ecn : cnI R = cnI s := by unfold cnI; rw [f7]
  have etc : tcI R = tcI s := by unfold tcI; rw [f2]
  have ecc : ccI R = ccI s := by unfold ccI; rw [f3]
  have esz : szI R = szI s := by unfold szI; rw [f1]
  have esg : sgI R = sgI s := by unfold sgI; rw [f4]
  have epl : plI R = plI s := by unfold plI; rw [f6]
  have ee : eI R = eI s := by unfold eI; rw [epl, f5]
  obtain ⟨c1, c2, c3, c4, c5, c6, c7, c8, c9⟩ := hn
  have em : (cnI s).toNat = m + 1 := by omega
  rw [em] at c5 c6 c7
  obtain ⟨i1, i2, i3, i4, i5⟩ := hr.sums nr
  have es := rowA.of ea
  have er := rowA.of eR
  have cst : cost R a = cost s a := by
    unfold cost
    rcases hs with e | ⟨⟨u1, u2, u3, u4⟩, w1, w2, w3, w4⟩
    · rw [e, hl]
    · rw [if_neg (fun z => z.elim u1 u2), if_neg u3, if_neg (fun z => u4 z.1), if_neg (fun z => z.elim w1 w2), if_neg w3, if_neg (fun z => w4 z.1)]
  have wc : WCS R (m + 1) = WCS s (m + 1) := by
    show WCS R m + cost R (rowA R m) = WCS s m + cost s (rowA s m)
    rw [i1, es, er, cst]
  have bl : BLS R (m + 1) = BLS s (m + 1) := by
    show BLS R m + (if R.o (rowA R m) 0 = 301 then 1 else 0) = BLS s m + (if s.o (rowA s m) 0 = 301 then 1 else 0)
    rw [i3, es, er]
    rcases hs with e | ⟨⟨u1, u2, u3, u4⟩, w1, w2, w3, w4⟩
    · rw [e]
    · rw [if_neg u2, if_neg w2]
  have am : AMS R (m + 1) = AMS s (m + 1) := by
    show AMS R m + (if R.o (rowA R m) 0 = 302 then 1 else 0) = AMS s m + (if s.o (rowA s m) 0 = 302 then 1 else 0)
    rw [i4, es, er]
    rcases hs with e | ⟨⟨u1, u2, u3, u4⟩, w1, w2, w3, w4⟩
    · rw [e]
    · rw [if_neg u3, if_neg w3]
  have kl : KLS R (m + 1) = KLS s (m + 1) := by
    unfold KLS
    rw [i5, es, er, hl]
    rcases hs with e | ⟨⟨u1, u2, u3, u4⟩, w1, w2, w3, w4⟩
    · rw [e]
    · rw [if_neg u3, if_neg (fun z => u4 z.1), if_neg w3, if_neg (fun z => w4 z.1)]
  have iq : IQ R (m + 1) := fun k hk => by
    by_cases ck : k ≤ m
    · exact (IQ.of (fun j hj => c5 j (by omega)) hr nr) k ck
    · have e : k = m + 1 := by omega
      rw [e, wc, bl, am, kl]
      exact c5 (m + 1) (Nat.le_refl _)
  refine ⟨by omega, by omega, by omega, by omega, by rw [ecn, em]; exact iq, by rw [ecn, em, wc, ee]; exact c6, by rw [ecn, em, esg]; exact hg, hd, ?_⟩
  rw [f8, ecn]
  refine ⟨c9.1, c9.2.1, fun b q1 q2 => ?_⟩
  by_cases z : (s.i 56).toInt.toNat = m
  · rw [z, eR] at q2
    cases q2
    have w := c9.2.2 a q1 (by rw [z]; exact ea)
    rcases hs with e | ⟨-, w1, w2, w3, w4⟩
    · rw [e]; exact w
    · exact absurd w w3
  · have lt : (s.i 56).toInt.toNat < m := by have := c9.2.1; omega
    have q := hr _ lt
    have w := q.1.symm.trans q2
    rw [(q.2 b w).1]
    exact c9.2.2 b q1 w
theorem JK.top {H : HB} {x y : Int} {cD c c' d d' : List Nat} {X : List (Nat × List Nat)} {P P' : List Nat} {lim lim1 : List Int} {s R : CS} {a m : Nat} (h : JK H x y cD c d X P lim s) (hb : CBS H R) (h32 : R.i 32 = s.i 32) (ea : s.r 51 m = some a) (eR : R.r 51 m = some a) (hx : s.i 32 = 0 → cnI s = (m : Int) + 1 ∧ SCD s R ∧ RSQ s R m ∧ (R.i 34 = s.i 34 ∧ R.i 43 = s.i 43 ∧ R.i 44 = s.i 44 ∧ R.i 53 = s.i 53 ∧ R.i 56 = s.i 56) ∧ R.ol a = s.ol a ∧ R.o a 3 = s.o a 3) (hd : s.i 32 = 0 → (d'.length : Int) = dsI R ∧ d'.length ≤ 21) (hs : s.i 32 = 0 → R.o a 0 = s.o a 0 ∨ ((¬ R.o a 0 = 300 ∧ ¬ R.o a 0 = 301 ∧ ¬ R.o a 0 = 302 ∧ ¬ R.o a 0 = 303) ∧ (¬ s.o a 0 = 300 ∧ ¬ s.o a 0 = 301 ∧ ¬ s.o a 0 = 302 ∧ ¬ s.o a 0 = 303))) (hg : s.i 32 = 0 → SGS R (m + 1) ≤ sgI s) (hR : s.i 32 = 0 → ∀ (DT : Nat → List Nat) (KT : Nat → Prop) (c0 : List Nat) (lim0 : List Int), (∀ q ∈ X, (q.1 : Int) < tcI s ∧ DT q.1 = q.2 ∧ ¬ KT q.1) → ROW1 s DT KT a c0 c lim lim0 → ROW1 R DT KT a c0 c' lim1 lim0) (hP : s.i 32 = 0 → ∀ k ∈ P, k ∈ P' ∨ OWS R a k) (hO : s.i 32 = 0 → ∀ k : Nat, (k : Int) < tcI s → OWS s a k → (s.a 17 k).toInt = -1 → k ∈ P' ∨ OWS R a k) (hN : s.i 32 = 0 → ∀ n : Nat, (n : Int) < nmI s → NMT (s.a 49 n) c → NMT (s.a 49 n) c') (hi : s.i 32 = 0 → lmh lim1 ≤ ccI s) : JK H x y cD c' d' X P' lim1 R := by
  refine ⟨hb, fun q => ?_⟩
  have q' := h32.symm.trans q
  obtain ⟨g, n⟩ := h.2 q'
  obtain ⟨cm, scd, rq, ⟨f1, f2, f3, f4, f5⟩, ol, o3⟩ := hx q'
  have nr : NR s m := fun i hi => h.1.2.2.2.2.2.2.1.2.2 i (by omega)
  exact ⟨g.top cm scd (by unfold cnI; rw [f4]) ea eR rq (hR q') (hP q') (hO q') (hN q') (hi q') o3 (by
    unfold arx
    rcases hs q' with w | ⟨w1, w2⟩
    · rw [w]
    · rw [if_neg w1.2.2.1, if_neg w2.2.2.1]), n.top cm ea eR rq nr ⟨scd.2.1, scd.2.2.1, scd.2.2.2.2, f1, f2, f3, f4, f5⟩ (hd q') ol (hs q') (hg q')⟩
/-- the fields that a row's typing looks at -/
theorem ROW1.fl {s R : CS} {DT : Nat → List Nat} {KT : Nat → Prop} {a : Nat} {c0 c : List Nat} {lim lim' : List Int} (h : ROW1 s DT KT a c0 c lim lim') (ho : ∀ j : Nat, j = 0 ∨ j = 2 ∨ j = 3 ∨ j = 9 ∨ j = 10 ∨ j = 11 ∨ j = 13 → R.o a j = s.o a j) (ht : tcI R = tcI s) (h49 : R.a 49 = s.a 49) (h19 : R.a 19 = s.a 19) : ROW1 R DT KT a c0 c lim lim' := by
  unfold ROW1 at *
  rw [ho 0 (by omega), ho 2 (by omega), ho 3 (by omega), ho 9 (by omega), ho 10 (by omega), ho 11 (by omega), ho 13 (by omega), ht, h49, h19]
  exact h
/-- a field that nothing looks at, in the innermost row -/
theorem JK.fld {H : HB} {x y : Int} {cD c d : List Nat} {X : List (Nat × List Nat)} {P : List Nat} {lim : List Int} {s : CS} {a m : Nat} (h : JK H x y cD c d X P lim s) (ea : s.r 51 m = some a) (m4 : m < 400) (hm : s.i 32 = 0 → cnI s = (m : Int) + 1) (k : Nat) (w : Int32) (hk : k = 1 ∨ k = 4 ∨ (5 ≤ k ∧ k ≤ 8) ∨ k = 12 ∨ k = 14 ∨ k = 15 ∨ k = 16) (hb : (5 ≤ k ∧ k ≤ 8) → bo w) : JK H x y cD c d X P lim (CS.setO s a k w) := by
  have cb := h.1.o a k w hb (by omega)
  have ou := (OUV.rf s a).o k w
  have oj : ∀ j : Nat, j ≠ k → (CS.setO s a k w).o a j = s.o a j := fun j hj => by
    rw [show (CS.setO s a k w).o a = upd (s.o a) k w from ou.2.2.1]
    exact if_neg hj
  have ok2 : ∀ t : Nat, OWS s a t → OWS (CS.setO s a k w) a t := fun t q => by
    unfold OWS at *
    rw [oj 0 (by omega), oj 9 (by omega), oj 10 (by omega)]
    exact q
  have rq : RSQ s (CS.setO s a k w) m := fun i hi => ⟨by rw [cr_setO], fun b eb => by
    have ne : b ≠ a := fun z => by
      rw [z] at eb
      have := h.1.1.2.2.1 i m a (by omega) m4 eb ea
      omega
    exact ou.2.1 b ne⟩
  have i0 : (CS.setO s a k w).i = s.i := ci_setO ..
  have a0 : (CS.setO s a k w).a = s.a := ca_setO ..
  have r0 : (CS.setO s a k w).r = s.r := cr_setO ..
  have l0 : (CS.setO s a k w).ol = s.ol := col_setO ..
  generalize CS.setO s a k w = R at *
  refine h.top cb (by rw [i0]) ea (by rw [r0]; exact ea) (fun q => ⟨hm q, ⟨⟨by rw [a0], by rw [a0], by rw [a0], by rw [a0], by rw [a0]⟩, by rw [i0], by rw [i0], by rw [i0], by rw [i0]⟩, rq, ⟨by rw [i0], by rw [i0], by rw [i0], by rw [i0], by rw [i0]⟩, by rw [l0], oj 3 (by omega)⟩) (fun q => ?_) (fun q => Or.inl (oj 0 (by omega))) (fun q => ?_) (fun q DT KT c0 lim0 _ z => z.fl (fun j hj => oj j (by omega)) (by unfold tcI; rw [i0]) (by rw [a0]) (by rw [a0])) (fun q k hk => Or.inl hk) (fun q t _ z _ => Or.inr (ok2 t z)) (fun q n _ z => z) (fun q => (h.2 q).1.lim)
  · have n := (h.2 q).2.2.2.2.2.2.2.2.1
    unfold dsI at *
    rw [i0]
    exact n
  · have n := (h.2 q).2.2.2.2.2.2.2.1
    have em : (cnI s).toNat = m + 1 := by have := hm q; omega
    rw [em] at n
    have nr : NR s m := fun i hi => h.1.2.2.2.2.2.2.1.2.2 i (by omega)
    have i2 := (rq.sums nr).2.1
    have er := rowA.of (show R.r 51 m = some a by rw [r0]; exact ea)
    have es := rowA.of ea
    have e : SGS R (m + 1) = SGS s (m + 1) := by
      show SGS R m + sgn R (rowA R m) = SGS s m + sgn s (rowA s m)
      rw [i2, er, es]
      unfold sgn
      rw [oj 0 (by omega)]
    rw [e]
    exact n
