/-! the class's reading: a statement's row -/
theorem TTc.x {tc : Int} {DT : Nat → List Nat} {KT : Nat → Prop} {X : List (Nat × List Nat)} {t : Int32} {d : List Nat} {k : Nat} (hX : ∀ q ∈ X, (q.1 : Int) < tc ∧ DT q.1 = q.2 ∧ ¬ KT q.1) (ht : t.toInt = (k : Int)) (hk : (k, d) ∈ X) : TTc tc DT KT t d := by
  have y := hX (k, d) hk
  have ek : t.toInt.toNat = k := by omega
  exact ⟨by omega, by have := y.1; omega, by rw [ek]; exact y.2.1, by rw [ek]; exact y.2.2⟩
/-- what is known where a statement begins -/
def S0G (s : CS) : Prop := s.i 32 = 0 ∧ NR s (cnI s).toNat ∧ NG s ∧ NMB s ∧ (WCS s (cnI s).toNat ≤ eI s ∧ SGS s (cnI s).toNat ≤ sgI s) ∧ (0 ≤ cnI s ∧ 0 ≤ nmI s ∧ nmI s ≤ 128 ∧ 0 ≤ sgI s)
theorem JJ.s0g {H : HB} {x y : Int} {c : List Nat} {X : List (Nat × List Nat)} {P : List Nat} {lim : List Int} {s : CS} (h : JJ H x y c X P lim s) (nf : s.i 32 = 0) (ng : NG s) : S0G s := by
  obtain ⟨g, n⟩ := h.2 nf
  obtain ⟨D, DT, KT, h1, h2, h3, h4, h5, h6, h7, h8, h9, h10⟩ := g
  exact ⟨nf, h.1.2.2.2.2.2.2.1.2.2, ng, h10, ⟨n.2.2.2.2.2.1, n.2.2.2.2.2.2.1⟩, h.1.2.2.2.2.2.2.1.1, h.1.2.2.2.2.2.1.1, h.1.2.2.2.2.2.1.2, n.2.2.2.1.1⟩
theorem PRX.row {H : HB} {x y : Int} {cD c c' d d' : List Nat} {X : List (Nat × List Nat)} {P P' : List Nat} {lim lim' : List Int} {v : Int32} {m a : Nat} {s0 s T : CS} {p g e κ : Int} (h : PRX H x y cD c d X P lim v m a s0 p g e s) (nf : s.i 32 = 0) (h0 : S0G s0) (hT : T.a = s.a ∧ T.r = s.r ∧ T.o = s.o ∧ T.ol = s.ol) (hTi : ∀ j : Nat, j ≠ 36 → j ≠ 38 → T.i j = s.i j) (hb : CBS H T) (h305 : ¬ s.o a 0 = 305) (hR : ∀ (DT : Nat → List Nat) (KT : Nat → Prop), (∀ q ∈ X, (q.1 : Int) < tcI s ∧ DT q.1 = q.2 ∧ ¬ KT q.1) → (∀ n : Nat, (n : Int) < (s.o a 3).toInt → NMT (s.a 49 n) c) → ROW1 s DT KT a c c' lim' lim) (hP : ∀ k ∈ P, k ∈ P' ∨ OWS s a k) (hN : ∀ z : Int32, NMT z c → NMT z c') (hi : lmh lim' ≤ ccI s) (h30 : nmI s0 ≤ (s.o a 3).toInt ∧ (s.o a 3).toInt ≤ nmI s) (hd : (d'.length : Int) = dsI T ∧ d'.length ≤ 21) (hsg : sgn s a = e) (hk : κ ≤ g) (hg0 : 0 ≤ g) (hp : 1 ≤ p) (hq : ∀ V : CS, IQ V m → RSQ V T m → NR V m → IQ T (m + 1) ∧ WCS T (m + 1) ≤ WCS V m + κ) : JK H (x + 50) y cD c' d' X P' lim' T ∧ SRL s0 T := by
  obtain ⟨⟨h1, ⟨h2, h3, h4, h5, h5'⟩, h6, h7⟩, h8⟩ := h
  obtain ⟨t1, t2, t3, t4⟩ := hT
  obtain ⟨z0, z1, z2, z3, ⟨z4, z5⟩, z6, z7, z8, z9⟩ := h0
  have sx := h8 nf
  obtain ⟨vm, cm⟩ := h6 nf
  obtain ⟨V, hV⟩ : ∃ V, V = CS.setI s 53 v := ⟨_, rfl⟩
  have Vi : ∀ j : Nat, j ≠ 53 → V.i j = s.i j := fun j hj => by rw [hV]; exact ci_ne _ _ _ hj
  have V53 : cnI V = (m : Int) := by unfold cnI; rw [hV, ci_at]; exact vm
  have Va : V.a = s.a := by rw [hV]; exact ca_setI ..
  have Vr : V.r = s.r := by rw [hV]; exact cr_setI ..
  have Vo : V.o = s.o := by rw [hV]; exact co_setI ..
  have Vol : V.ol = s.ol := by rw [hV]; exact col_setI ..
  rw [← hV] at h7 sx
  clear hV
  have nfV : V.i 32 = 0 := (Vi 32 (by decide)).trans nf
  have e0 : cnI s0 = (m : Int) := by rw [← V53]; unfold cnI; rw [sx.2.2.2.1.2.1]
  have rV : RSQ V T m := fun i _ => ⟨by rw [t2, Vr], fun b _ => ⟨by rw [t3, Vo], by rw [t4, Vol]⟩⟩
  have nrV : NR V m := by
    have := h7.1.2.2.2.2.2.2.1.2.2
    rw [V53] at this
    exact this
  have ngV := sx.ng z2 z1
  have e0m : (cnI s0).toNat = m := by omega
  have rs0 := sx.2.2.2.2.2.1
  rw [e0m] at rs0 z1 z4 z5
  obtain ⟨i1, i2, i3, i4, i5⟩ := rs0.sums z1
  have scd : SCD V T := by
    refine ⟨⟨?_, ?_, ?_, ?_, ?_⟩, ?_, ?_, ?_, ?_⟩
    · rw [t1, Va]
    · rw [t1, Va]
    · rw [t1, Va]
    · rw [t1, Va]
    · rw [t1, Va]
    · rw [hTi 20 (by decide) (by decide), Vi 20 (by decide)]
    · rw [hTi 21 (by decide) (by decide), Vi 21 (by decide)]
    · rw [hTi 50 (by decide) (by decide), Vi 50 (by decide)]
    · rw [hTi 22 (by decide) (by decide), Vi 22 (by decide)]
  have etV : tcI V = tcI s := by unfold tcI; rw [Vi 21 (by decide)]
  have enV : nmI V = nmI s := by unfold nmI; rw [Vi 50 (by decide)]
  have ecV : ccI V = ccI s := by unfold ccI; rw [Vi 22 (by decide)]
  have etT : tcI T = tcI s := by unfold tcI; rw [hTi 21 (by decide) (by decide)]
  have ha : T.r 51 m = some a := by rw [t2]; exact h3
  have n := (h7.2 nfV).2
  have iqV := n.2.2.2.2.1
  have len := h7.len nfV ngV
  rw [V53] at iqV len
  have em : ((m : Int)).toNat = m := by omega
  rw [em] at iqV len
  obtain ⟨iq, wc⟩ := hq V iqV rV nrV
  obtain ⟨q1, q2, q3, q4, q5⟩ := rV.put nrV ha
  have sgT : sgn T a = e := by rw [← hsg]; unfold sgn; rw [t3]
  have esx := sx.2.2.1
  have cnT : cnI T = (m : Int) + 1 := by unfold cnI; rw [hTi 53 (by decide) (by decide)]; exact cm
  have row : ∀ (DT : Nat → List Nat) (KT : Nat → Prop), ROW1 s DT KT a c c' lim' lim → ROW1 T DT KT a c c' lim' lim := fun DT KT q => by
    unfold ROW1 at *
    rw [t3, t1, etT]
    exact q
  refine ⟨h7.row nfV hb V53.symm h4 scd cnT ha rV (by have := arx.nn T a; omega) (fun DT KT qX qN => row DT KT (hR DT KT (by rw [← etV]; exact qX) (fun n hn => by rw [← Va]; exact qN n (by omega)))) (fun k hk' => ?_) hN (by rw [ecV]; exact hi) ⟨by rw [t3, enV]; exact h30.2, fun j b hj eb => ?_⟩ ⟨?_, ?_, ?_⟩ hd iq ?_ ?_ (Or.inl ?_), ?_⟩
  · rcases hP k hk' with w | w
    · exact Or.inl w
    · right; unfold OWS at *; rw [t3]; exact w
  · have w := rs0 j (by omega)
    have w1 := w.1.symm.trans eb
    have w2 := (z3 j b (by omega) w1).1
    rw [t3, (w.2 b w1).1]
    omega
  · rw [hTi 34 (by decide) (by decide), Vi 34 (by decide)]
  · rw [hTi 43 (by decide) (by decide), Vi 43 (by decide)]
  · rw [hTi 44 (by decide) (by decide), Vi 44 (by decide)]
  · have := sx.2.1.2
    rw [i1] at wc
    omega
  · rw [q2, i2, sgT]
    omega
  · rw [hTi 56 (by decide) (by decide), Vi 56 (by decide)]
  · have epl : plI T = plI V := by unfold plI; rw [hTi 44 (by decide) (by decide), Vi 44 (by decide)]
    have ee : eI T = eI V := by unfold eI; rw [epl, hTi 43 (by decide) (by decide), Vi 43 (by decide)]
    have esg : sgI T = sgI V := by unfold sgI; rw [hTi 34 (by decide) (by decide), Vi 34 (by decide)]
    have cm1 : (cnI T).toNat = m + 1 := by omega
    have s1 := sx.2.1
    refine ⟨z0, ⟨by omega, by omega⟩, ?_, by omega, ?_, fun n hn => ?_, fun i hi' => ?_, ?_, ?_, ?_, fun _ _ b eb => ?_⟩
    · rw [cm1, q2, i2, sgT, e0m, esg, esx]
      omega
    · rw [e0m]
      exact rs0.tr rV
    · rw [t1, ← Va]; exact sx.2.2.2.2.2.2.1 n hn
    · rw [t1, ← Va]; exact sx.2.2.2.2.2.2.2 i hi'
    · rw [hTi 56 (by decide) (by decide), ← Vi 56 (by decide)]; exact sx.2.2.2.1.2.2.1
    · rw [hTi 22 (by decide) (by decide), ← Vi 22 (by decide)]; exact sx.2.2.2.1.2.2.2
    · have e : nmI T = nmI V := by unfold nmI; rw [hTi 50 (by decide) (by decide), Vi 50 (by decide)]
      rw [e]; exact sx.2.2.2.2.1
    · rw [e0m, ha] at eb
      cases eb
      rw [t3]; exact h305
/-- the fields of a row that was just made -/
theorem PRX.of {N : Nat} {H : HB} {x y : Int} {cD c d : List Nat} {X : List (Nat × List Nat)} {P : List Nat} {lim : List Int} {s0 s : CS} {p g e : Int} (h : JK H x y cD c d X P lim s) (hs : s.i 32 = 0 → SX p g e s0 s) (x1 x2 x3 : Int32) (h3 : 0 ≤ x3.toInt ∧ x3.toInt ≤ 128) : ok (f_X6_push N s x1 x2 x3) (fun R => ∃ (v : Int32) (a m : Nat), R.1 = some a ∧ PRX H x y cD c d X P lim v m a s0 p g e R.2 ∧ (R.2.o a 0 = x1 ∧ R.2.o a 2 = x2 ∧ R.2.o a 3 = x3 ∧ R.2.ol a = 0) ∧ (R.2.o a 9 = -1 ∧ R.2.o a 10 = -1 ∧ R.2.o a 11 = -1) ∧ (∀ j : Nat, j ≠ 53 → j ≠ 54 → R.2.i j = s.i j) ∧ R.2.a = s.a) := by
  refine ok_imp (q_pushK h x1 x2 x3 h3) (fun R hR => ?_)
  obtain ⟨a, m, r1, pr, ps⟩ := hR
  refine ⟨_, a, m, r1, ⟨pr, fun q => ?_⟩, ps.2.2.2.2.2.2.2.1, ps.2.2.2.2.2.2.2.2.2, ps.2.1, ps.1.1⟩
  obtain ⟨⟨p1, p2, p3⟩, p4, p5, p6, p7, p8, p9, p10⟩ := ps
  obtain ⟨k1, ⟨k2, k3, k4, k5, k6⟩, k7, k8⟩ := pr
  have hv0 : cnI s ≤ 399 → (if (399 : Int32) < s.i 53 then (399 : Int32) else s.i 53) = s.i 53 := fun l => if_neg (fun c => by
    have l2 := lt_int c
    rw [show (399 : Int32).toInt = 399 by decide] at l2
    unfold cnI at l
    omega)
  generalize (if (399 : Int32) < s.i 53 then (399 : Int32) else s.i 53) = v at *
  have e32 : R.2.i 32 = s.i 32 := p4 32 (by decide) (by decide)
  have sx := hs (e32.symm.trans q)
  obtain ⟨vm, cm⟩ := k7 q
  have qV : (CS.setI R.2 53 v).i 32 = 0 := (ci_ne _ _ _ (by decide)).trans q
  have n1 := (k8.2 qV).1
  have n : ∀ j : Nat, j ≠ 53 → j ≠ 54 → (CS.setI R.2 53 v).i j = s.i j := fun j j1 j2 => (ci_ne _ _ _ j1).trans (p4 j j1 j2)
  have e53 : v = s.i 53 := hv0 (by
    have nn := (h.2 (e32.symm.trans q)).2
    have b := nn.2.2.2.2.1.bound (by
      have := nn.2.2.2.2.2.1
      have e := eI.ge s
      have a := h.1.2.2.1.2.1
      have b := h.1.2.2.1.1
      have : plI s ≤ 900 := by unfold plI; omega
      omega) (by have := nn.2.2.2.2.2.2.1; have := nn.2.2.2.1.2; omega)
    omega)
  have cn : cnI s = (m : Int) := by rw [← vm, e53]; rfl
  have sy : SX 0 0 0 s (CS.setI R.2 53 v) := by
    refine ⟨e32.symm.trans q, ?_, ?_, ⟨n 38 (by decide) (by decide), (ci_at _ _ _).trans e53, n 56 (by decide) (by decide), n 22 (by decide) (by decide)⟩, ?_, fun i hi => ?_, fun _ _ => by rw [ca_setI, p1], fun _ _ => by rw [ca_setI, p1]; exact ⟨rfl, rfl⟩⟩
    · have epl : plI (CS.setI R.2 53 v) = plI s := by unfold plI; rw [n 44 (by decide) (by decide)]
      have ee : eI (CS.setI R.2 53 v) = eI s := by unfold eI; rw [epl, n 43 (by decide) (by decide)]
      omega
    · unfold sgI; rw [n 34 (by decide) (by decide)]; omega
    · unfold nmI; rw [n 50 (by decide) (by decide)]; exact Int.le_refl _
    · have ne : i ≠ m := by omega
      refine ⟨by rw [cr_setI]; exact p7 i ne, fun b eb => ?_⟩
      have w := p9 i b (by omega) ne eb
      exact ⟨by rw [co_setI]; exact w.2.1, by rw [col_setI]; exact w.2.2⟩
  exact (sx.tr sy).w (by omega) (by omega) (by omega)
