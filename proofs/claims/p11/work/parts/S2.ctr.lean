/-! the class's reading: a try begins -/
theorem GW.try {c : List Nat} {X : List (Nat × List Nat)} {P : List Nat} {lim : List Int} {s T : CS} {a m : Nat} (h : GW c c X P lim s) (hl : c.length ≤ 21) (hlen : (c.length : Int) ≤ SGS s m) (hm : (m : Int) = cnI s) (m4 : m < 400) (hc : cnI T = (m : Int) + 1) (ea : T.r 51 m = some a) (hr : RSQ s T m) (a15 : T.a 15 = gPut (s.a 15) 1200 (s.i 20) 54) (a16 : T.a 16 = gPut (s.a 16) 1200 (s.i 20) (T.o a 10)) (h20 : szI T = szI s + 1) (h21 : tcI T = tcI s + 3) (a17o : ∀ k : Nat, (k : Int) < tcI s → T.a 17 k = s.a 17 k) (a17n : ∀ k : Nat, tcI s ≤ (k : Int) → (k : Int) < tcI s + 3 → (T.a 17 k).toInt = -1) (h19 : T.a 19 = s.a 19) (h49 : T.a 49 = s.a 49) (h22 : T.i 22 = s.i 22) (h50 : T.i 50 = s.i 50) (o0 : T.o a 0 = 213) (o2 : (T.o a 2).toInt = (c.length : Int)) (o3 : (T.o a 3).toInt = nmI s) (o10 : (T.o a 10).toInt = tcI s) (o11 : (T.o a 11).toInt = tcI s + 1) (o9 : (T.o a 9).toInt = tcI s + 2) (htc : tcI s ≤ 1010) : GW (1 :: c) (1 :: c) X P lim T := by
  obtain ⟨D, DT, KT, h1, h2, h3, h4, h5, ⟨n, n1, n2, n3⟩, h7, h8, h9, h10⟩ := h
  have en : n = m := by omega
  rw [en] at n3
  have h40 := h4.1
  have eS : ((szI s).toNat : Int) = szI s := Int.toNat_of_nonneg h40
  have eT : ((tcI s).toNat : Int) = tcI s := Int.toNat_of_nonneg h8
  obtain ⟨N0, hN0⟩ : ∃ N0, N0 = (tcI s).toNat := ⟨_, rfl⟩
  rw [← hN0] at eT
  obtain ⟨DT', hD⟩ : ∃ DT' : Nat → List Nat, DT' = fun t => if t = N0 then 2 :: c else if t = N0 + 1 then 3 :: c else if t = N0 + 2 then c else DT t := ⟨_, rfl⟩
  obtain ⟨KT', hK⟩ : ∃ KT' : Nat → Prop, KT' = fun t => t = N0 + 1 ∨ (t < N0 ∧ KT t) := ⟨_, rfl⟩
  have lo : ∀ k : Nat, (k : Int) < tcI s → DT' k = DT k ∧ (KT' k ↔ KT k) := fun k q => by
    rw [hD, hK]
    refine ⟨?_, ⟨fun z => ?_, fun z => Or.inr ⟨by omega, z⟩⟩⟩
    · show (if k = N0 then 2 :: c else if k = N0 + 1 then 3 :: c else if k = N0 + 2 then c else DT k) = DT k
      rw [if_neg (by omega), if_neg (by omega), if_neg (by omega)]
    · rcases z with z | z
      · omega
      · exact z.2
  have d0 : DT' N0 = 2 :: c := by rw [hD]; exact if_pos rfl
  have d1 : DT' (N0 + 1) = 3 :: c := by
    rw [hD]
    show (if N0 + 1 = N0 then 2 :: c else if N0 + 1 = N0 + 1 then 3 :: c else if N0 + 1 = N0 + 2 then c else DT (N0 + 1)) = 3 :: c
    rw [if_neg (by omega), if_pos rfl]
  have d2 : DT' (N0 + 2) = c := by
    rw [hD]
    show (if N0 + 2 = N0 then 2 :: c else if N0 + 2 = N0 + 1 then 3 :: c else if N0 + 2 = N0 + 2 then c else DT (N0 + 2)) = c
    rw [if_neg (by omega), if_neg (by omega), if_pos rfl]
  have k0 : ¬ KT' N0 := by rw [hK]; rintro (z | z) <;> omega
  have k1 : KT' (N0 + 1) := by rw [hK]; exact Or.inl rfl
  have k2 : ¬ KT' (N0 + 2) := by rw [hK]; rintro (z | z) <;> omega
  clear hD hK
  have t10 : TTc (tcI T) DT' KT' (T.o a 10) (2 :: c) := by
    have e : (T.o a 10).toInt.toNat = N0 := by omega
    exact ⟨by omega, by omega, by rw [e]; exact d0, by rw [e]; exact k0⟩
  have t9 : TTc (tcI T) DT' KT' (T.o a 9) c := by
    have e : (T.o a 9).toInt.toNat = N0 + 2 := by omega
    exact ⟨by omega, by omega, by rw [e]; exact d2, by rw [e]; exact k2⟩
  have t11 : KTc (tcI T) DT' KT' (T.o a 11) (3 :: c) := by
    have e : (T.o a 11).toInt.toNat = N0 + 1 := by omega
    exact ⟨by omega, by omega, by rw [e]; exact d1, by rw [e]; exact k1⟩
  have e1 : (1 : Int32).toInt = 1 := by decide
  have x11 : (T.o a 10 + 1).toInt = tcI s + 1 := by rw [toInt_add] <;> rw [e1] <;> omega
  have tx : KTc (tcI T) DT' KT' (T.o a 10 + 1) (3 :: c) := by
    have e : (T.o a 10 + 1).toInt.toNat = N0 + 1 := by omega
    exact ⟨by omega, by omega, by rw [e]; exact d1, by rw [e]; exact k1⟩
  have ecc : ccI T = ccI s := by unfold ccI; rw [h22]
  have enm : nmI T = nmI s := by unfold nmI; rw [h50]
  have nr := n3.nr
  refine ⟨fun p => if p = (szI s).toNat + 1 then 1 :: c else D p, DT', KT', fun p p1 p2 => ?_, fun t q => ?_, fun t q1 q2 q3 => ?_, ⟨by omega, ?_, ?_⟩, fun q hq => ?_, ⟨m + 1, by omega, by omega, a, c, lim, ea, ?_, ⟨o2, fun k hk => ?_, ?_⟩, ?_⟩, fun k hk => ?_, by omega, by rw [ecc]; exact h9, fun i b hi' e => ?_⟩
  · have np : p ≠ (szI s).toNat + 1 := by omega
    show IOK (tcI T) DT' KT' (T.a 15 p) (T.a 16 p) (if p = (szI s).toNat + 1 then 1 :: c else D p) (if p + 1 = (szI s).toNat + 1 then 1 :: c else D (p + 1)) ∧ (if p = (szI s).toNat + 1 then 1 :: c else D p).length ≤ 21
    rw [if_neg np, a15, a16]
    by_cases c9 : (p : Int) = szI s
    · have e' : p = (szI s).toNat := by omega
      rw [gPut_at c9 p1, gPut_at c9 p1, if_pos (by omega), e', h4.2.1]
      refine ⟨⟨fun q => absurd q (by decide), fun q => absurd q (by decide), fun _ q => absurd q (by decide), fun _ q => absurd q (by decide), fun q => absurd q (by decide), fun q => absurd q (by decide), fun _ => ⟨rfl, t10, tx⟩, fun q => absurd q (by decide), fun q => absurd q (by decide), fun q => absurd q (by decide), fun q => absurd q (by decide), fun q => absurd q (by decide), by decide⟩, hl⟩
    · rw [gPut_ne c9, gPut_ne c9, if_neg (by omega)]
      have z := h1 p p1 (by omega)
      exact ⟨z.1.mono (by omega) lo, z.2⟩
  · by_cases c3 : (t : Int) < tcI s
    · rw [a17o t c3, h20, (lo t c3).1]
      rcases h2 t c3 with z | ⟨z1, z2, z3⟩
      · exact Or.inl z
      · refine Or.inr ⟨z1, by omega, ?_⟩
        show (if (s.a 17 t).toInt.toNat = (szI s).toNat + 1 then 1 :: c else D (s.a 17 t).toInt.toNat) = DT t
        rw [if_neg (by omega)]
        exact z3
    · exact Or.inl (a17n t (by omega) (by omega))
  · by_cases c3 : (t : Int) < tcI s
    · rw [a17o t c3] at q3
      rcases h3 t c3 (fun z => q2 ((lo t c3).2.mpr z)) q3 with z | z
      · exact Or.inl z
      · exact Or.inr (z.of (by omega) (fun i b hi e => by
          have w := hr i (by omega)
          exact ⟨w.1.trans e, (w.2 b e).1⟩))
    · refine Or.inr ⟨m, a, by omega, ea, ?_⟩
      by_cases c4 : t = N0
      · right
        rw [o0]
        exact ⟨by decide, by omega⟩
      · by_cases c5 : t = N0 + 1
        · exact absurd (by rw [c5]; exact k1) q2
        · left
          rw [o0]
          exact ⟨by decide, by decide, by decide, by decide, by omega⟩
  · show (if (szI T).toNat = (szI s).toNat + 1 then 1 :: c else D (szI T).toNat) = 1 :: c
    rw [if_pos (by omega)]
  · show (if 0 = (szI s).toNat + 1 then 1 :: c else D 0) = []
    rw [if_neg (by omega)]; exact h4.2.2
  · obtain ⟨z1, z2, z3⟩ := h5 q hq
    have y := lo q.1 z1
    exact ⟨by omega, by rw [y.1]; exact z2, fun w => z3 (y.2.mp w)⟩
  · rw [(hr.sums nr).2.1]
    have := arx.nn T a
    omega
  · rw [h49]; exact h7 k (by omega)
  · exact Or.inr (Or.inr (Or.inr (Or.inr (Or.inr (Or.inr (Or.inr (Or.inr (Or.inl ⟨o0, rfl, t9, t10, t11, rfl⟩))))))))
  · exact n3.mono (by omega) lo (fun t q0 q => by rw [a17o t q0]; exact q) hr (fun k _ => by rw [h19]) (fun _ _ _ _ k _ => by rw [h49]) nr
  · rw [enm] at hk
    rw [h49]
    exact (h7 k hk).cons 1
  · have old : ∀ j d : Nat, j < m → T.r 51 j = some d → s.r 51 j = some d ∧ T.o d = s.o d := fun j d hj ej => by
      have q := hr j hj
      have z := q.1.symm.trans ej
      exact ⟨z, (q.2 d z).1⟩
    rw [enm]
    by_cases ci : i = m
    · rw [ci, ea] at e
      cases e
      exact ⟨by omega, fun j d y1 y2 _ => by omega⟩
    · have q := old i b (by omega) e
      have z := h10 i b (by omega) q.1
      rw [q.2]
      refine ⟨z.1, fun j d y1 y2 y3 => ?_⟩
      by_cases cj : j = m
      · rw [cj, ea] at y3
        cases y3
        have := z.1
        omega
      · have w := old j d (by omega) y3
        rw [w.2]
        exact z.2 j d y1 (by omega) w.1
theorem NB.row {x y e : Int} {d d' : List Nat} {s R : CS} {a m : Nat} (h : NB x y d s) (hm : (m : Int) = cnI s) (hc : cnI R = (m : Int) + 1) (ha : R.r 51 m = some a) (hr : RSQ s R m) (h1 : tcI R = tcI s ∧ ccI R = ccI s ∧ szI R ≤ szI s + e ∧ plI R = plI s ∧ eI R = eI s) (hsg : SGS R (m + 1) ≤ sgI R ∧ 0 ≤ sgI R ∧ sgI R ≤ 20) (hd : (d'.length : Int) = dsI R ∧ d'.length ≤ 21) (hq : IQ R (m + 1)) (hw : WCS R (m + 1) ≤ eI s) (h56 : R.i 56 = s.i 56) : NB (x + 50 + e) y d' R := by
  obtain ⟨c1, c2, c3, c4, c5, c6, c7, c8, c9⟩ := h
  obtain ⟨f1, f2, f3, f4, f5⟩ := h1
  have ecn : (cnI R).toNat = m + 1 := by omega
  refine ⟨by omega, by omega, by omega, ⟨hsg.2.1, hsg.2.2⟩, by rw [ecn]; exact hq, by rw [ecn, f5]; exact hw, by rw [ecn]; exact hsg.1, hd, ?_⟩
  rw [h56]
  refine ⟨c9.1, by omega, fun b q1 q2 => ?_⟩
  have lt : (s.i 56).toInt.toNat < m := by have := c9.2.1; omega
  have q := hr _ lt
  have z : s.r 51 (s.i 56).toInt.toNat = some b := q.1.symm.trans q2
  rw [(q.2 b z).1]
  exact c9.2.2 b q1 z
/-- with one more sign begun than there is -/
noncomputable def vir (s : CS) : CS := CS.setI s 34 (s.i 34 + 1)
def JW (H : HB) (x y : Int) (c : List Nat) (X : List (Nat × List Nat)) (P : List Nat) (lim : List Int) (s0 : CS) (a m : Nat) (s : CS) : Prop := CBS H s ∧ (s.r 51 m = some a ∧ m < 400) ∧ (s.i 34 < 20 → JJ H x y c X P lim (vir s) ∧ (s.i 32 = 0 → cnI s = (m : Int) + 1 ∧ (m : Int) = cnI s0 ∧ SRL s0 (vir s)))
theorem vir.i (s : CS) (j : Nat) (hj : j ≠ 34) : (vir s).i j = s.i j := ci_ne _ _ _ hj
theorem SX.srl2 {p g : Int} {s T R : CS} (h : SRL s T) (k : SX p g 0 T R) (hp : 0 ≤ p) (hg : 0 ≤ g) (nr : NR T (cnI T).toNat) : SRL s R := by
  obtain ⟨a0, a1, a2, a3, a4, a5, a6, a7, a8, a9, h5⟩ := h
  obtain ⟨b0, ⟨b1, b2⟩, b3, ⟨b4, b5, b6, b7⟩, b8, b9, b10, b11⟩ := k
  have ecn : cnI R = cnI T := by unfold cnI; rw [b5]
  have ecc : ccI T = ccI s := by unfold ccI; rw [a8]
  obtain ⟨i1, i2, i3, i4, i5⟩ := b9.sums nr
  refine ⟨a0, ⟨by omega, by omega⟩, by rw [ecn, i2]; omega, by omega, a4.tr (b9.lo (by omega)), fun n hn => (b10 n (by omega)).trans (a5 n hn), fun i hi => ?_, b6.trans a7, b7.trans a8, by omega, fun y z b eb => ?_⟩
  case refine_2 =>
    have w := b9 (cnI s).toNat (by omega)
    have e := w.1.symm.trans eb
    rw [(w.2 b e).1]
    exact h5 y (by omega) b e
  have w := b11 i (by omega)
  exact ⟨w.1.trans (a6 i hi).1, w.2.trans (a6 i hi).2⟩
theorem vir.adv {s R : CS} (h : ADV s R) : ADV (vir s) (vir R) := by
  have e34 : R.i 34 = s.i 34 := h.1.2 34 (by decide) (by decide) (by decide) (by decide)
  obtain ⟨⟨b, b1⟩, h2, h3, h4, h5⟩ := h
  unfold vir
  rw [e34]
  refine ⟨⟨b, fun j q1 q2 q3 q4 => ?_⟩, h2, ?_, ?_, ?_⟩
  · by_cases q : j = 34
    · rw [q, ci_at, ci_at]
    · rw [ci_ne _ _ _ q, ci_ne _ _ _ q]; exact b1 j q1 q2 q3 q4
  · rw [ci_ne _ _ _ (by decide), ci_ne _ _ _ (by decide)]; exact h3
  · rw [ci_ne _ _ _ (by decide), ci_ne _ _ _ (by decide), ci_ne _ _ _ (by decide), ci_ne _ _ _ (by decide)]; exact h4
  · rw [ci_ne _ _ _ (by decide), ci_ne _ _ _ (by decide)]; exact h5
theorem vir.add {s R : CS} {o x : Int32} (h : ADD s R o x) : ADD (vir s) (vir R) o x := by
  have e34 : R.i 34 = s.i 34 := h.2.1 34 (by decide)
  obtain ⟨b, b11, b12, b13, b14, b15⟩ := h
  unfold vir
  rw [e34]
  refine ⟨b, fun j hj => ?_, ?_, b13, ?_, ?_⟩
  · by_cases q : j = 34
    · rw [q, ci_at, ci_at]
    · rw [ci_ne _ _ _ q, ci_ne _ _ _ q]; exact b11 j hj
  · rw [ci_ne _ _ _ (by decide), ci_ne _ _ _ (by decide)]; exact b12
  · rw [ca_setI, ca_setI, ci_ne _ _ _ (by decide)]; exact b14
  · rw [ca_setI, ca_setI, ci_ne _ _ _ (by decide)]; exact b15
theorem JW.w {H : HB} {x y x' y' : Int} {c : List Nat} {X : List (Nat × List Nat)} {P : List Nat} {lim : List Int} {s0 s : CS} {a m : Nat} (h : JW H x y c X P lim s0 a m s) (hx : x ≤ x') (hy : y ≤ y') : JW H x' y' c X P lim s0 a m s := ⟨h.1, h.2.1, fun q => ⟨(h.2.2 q).1.w hx hy, (h.2.2 q).2⟩⟩
theorem JW.flt {H : HB} {x y : Int} {c : List Nat} {X : List (Nat × List Nat)} {P : List Nat} {lim : List Int} {s0 s R : CS} {a m : Nat} (h : CBS H s) (hm : s.r 51 m = some a ∧ m < 400) (hf : FLD s R) : JW H x y c X P lim s0 a m R := by
  have cb := hf.t9.cb h hf.2.2.1 (fun _ => hf.2.2.2.2) (fun q => absurd q hf.2.2.2.1)
  have nf := hf.2.2.2.1
  refine ⟨cb, ⟨by rw [hf.1.2.2.2.2.2.2.2.1]; exact hm.1, hm.2⟩, fun _ => ⟨⟨((TS9.rf R).i34 _).cb cb cb.2.2.1 (fun _ => ?_) (fun q => (ci_ne _ _ _ (by decide)).symm.trans q), fun q => ?_⟩, fun q => absurd q nf⟩⟩
  · rw [ci_ne _ _ _ (by decide)]; exact hf.2.2.2.2
  · exact absurd ((vir.i R 32 (by decide)).symm.trans q) nf
theorem JW.adv {H : HB} {x y : Int} {c : List Nat} {X : List (Nat × List Nat)} {P : List Nat} {lim : List Int} {s0 s R : CS} {a m : Nat} (h : JW H x y c X P lim s0 a m s) (ha : ADV s R) (h0 : s.i 32 = 0 → ¬ s.i 43 = 0) : JW H (x - 100) y c X P lim s0 a m R := by
  obtain ⟨h1, ⟨h2, h3⟩, h4⟩ := h
  have va := vir.adv ha
  have e32 := ha.f32
  have e34 : R.i 34 = s.i 34 := ha.1.2 34 (by decide) (by decide) (by decide) (by decide)
  have e53 : R.i 53 = s.i 53 := ha.1.2 53 (by decide) (by decide) (by decide) (by decide)
  refine ⟨ha.1.t9.cb h1 ha.2.1 (fun q => ha.2.2.2.2 (h1.2.2.2.2.1 (by rw [← e32]; exact q))) (fun q => e32.symm.trans q), ⟨by rw [ha.1.1.2.2.2.2.2.2.2.1]; exact h2, h3⟩, fun q => ?_⟩
  obtain ⟨j, k⟩ := h4 (by rw [← e34]; exact q)
  obtain ⟨j2, e2⟩ := j.tk va (fun z => by rw [vir.i s 43 (by decide)]; exact h0 ((vir.i s 32 (by decide)).symm.trans z))
  refine ⟨j2, fun z => ?_⟩
  have z1 := e32.symm.trans z
  obtain ⟨k1, k2, k3⟩ := k z1
  exact ⟨by rw [← k1]; unfold cnI; rw [e53], k2, SX.srl2 k3 (e2 ((vir.i R 32 (by decide)).trans z)).sx (by omega) (by omega) j.1.2.2.2.2.2.2.1.2.2⟩
theorem JW.add {H : HB} {x y : Int} {c : List Nat} {X : List (Nat × List Nat)} {P : List Nat} {lim : List Int} {s0 s R : CS} {a m : Nat} {o v : Int32} (h : JW H x y c X P lim s0 a m s) (ha : ADD s R o v) (hx : x ≤ 10000) (hy : y ≤ 100) (ho : o.toInt < 30 ∨ (36 ≤ o.toInt ∧ o.toInt < 50) ∨ o.toInt = 51 ∨ o.toInt = 52 ∨ o.toInt = 55 ∨ o.toInt = 57) : JW H (x + 1) y c X P lim s0 a m R := by
  obtain ⟨h1, ⟨h2, h3⟩, h4⟩ := h
  have va := vir.add ha
  have e34 : R.i 34 = s.i 34 := ha.2.1 34 (by decide)
  have e53 : R.i 53 = s.i 53 := ha.2.1 53 (by decide)
  have e32 := ha.f32.1
  refine ⟨ha.cb h1, ⟨by rw [ha.1.2.2.2.2.2.2.1]; exact h2, h3⟩, fun q => ?_⟩
  obtain ⟨j, k⟩ := h4 (by rw [← e34]; exact q)
  refine ⟨j.add va hx hy (fun _ _ _ _ _ _ => IOK.fall ho), fun z => ?_⟩
  have z1 := e32.symm.trans z
  obtain ⟨k1, k2, k3⟩ := k z1
  exact ⟨by rw [← k1]; unfold cnI; rw [e53], k2, SX.srl2 k3 (va.sx ((vir.i s 32 (by decide)).trans z1)) (by omega) (by omega) j.1.2.2.2.2.2.2.1.2.2⟩
