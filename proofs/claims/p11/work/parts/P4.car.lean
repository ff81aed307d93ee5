/-! the class's reading: the arms of a choice -/
theorem cnt.mono {f g : Nat → Bool} : ∀ {n : Nat}, (∀ i : Nat, i < n → f i = true → g i = true) → cnt f n ≤ cnt g n
  | 0, _ => Int.le_refl _
  | n + 1, h => by
    have i := cnt.mono (n := n) (fun i hi => h i (by omega))
    unfold cnt
    by_cases c : f n = true
    · rw [if_pos c, if_pos (h n (by omega) c)]; omega
    · rw [if_neg c]
      by_cases d : g n = true
      · rw [if_pos d]; omega
      · rw [if_neg d]; omega
/-- how many of 0 to 9 stand among these cases -/
noncomputable def KDF (s : CS) (f m : Int) : Nat → Bool := fun d => @decide (∃ i : Nat, f ≤ (i : Int) ∧ (i : Int) < m ∧ (s.a 18 i).toInt = (d : Int)) (Classical.propDecidable _)
noncomputable def KD (s : CS) (f m : Int) : Int := cnt (KDF s f m) 10
theorem KDF.iff (s : CS) (f m : Int) (d : Nat) : KDF s f m d = true ↔ ∃ i : Nat, f ≤ (i : Int) ∧ (i : Int) < m ∧ (s.a 18 i).toInt = (d : Int) := by
  unfold KDF
  exact @decide_eq_true_iff _ (Classical.propDecidable _)
theorem KDF.eq {s R : CS} {f m : Int} (h : ∀ i : Nat, (i : Int) < m → R.a 18 i = s.a 18 i) (d : Nat) : KDF R f m d = KDF s f m d := by
  refine Bool.eq_iff_iff.mpr ((KDF.iff ..).trans (Iff.trans ⟨fun ⟨i, a, b, e⟩ => ⟨i, a, b, by rw [← h i b]; exact e⟩, fun ⟨i, a, b, e⟩ => ⟨i, a, b, by rw [h i b]; exact e⟩⟩ (KDF.iff ..).symm))
theorem KD.le (s : CS) (f m : Int) : 0 ≤ KD s f m ∧ KD s f m ≤ 10 := cnt.le _ 10
theorem KD.eq {s R : CS} {f m : Int} (h : ∀ i : Nat, (i : Int) < m → R.a 18 i = s.a 18 i) : KD R f m = KD s f m := cnt.of (fun d _ => KDF.eq h d)
theorem KD.up {s R : CS} {f m : Int} (h : ∀ i : Nat, (i : Int) < m → R.a 18 i = s.a 18 i) : KD s f m ≤ KD R f (m + 1) := cnt.mono (fun d _ q => by
  obtain ⟨i, a, b, e⟩ := (KDF.iff ..).mp q
  exact (KDF.iff ..).mpr ⟨i, a, by omega, by rw [h i b]; exact e⟩)
theorem KD.one {s R : CS} {f m : Int} (hm : 0 ≤ m) (hf : f ≤ m) (h : ∀ i : Nat, (i : Int) < m → R.a 18 i = s.a 18 i) (hv : 0 ≤ (R.a 18 m.toNat).toInt ∧ (R.a 18 m.toNat).toInt ≤ 9) (hd : ∀ i : Nat, f ≤ (i : Int) → (i : Int) < m → ¬ s.a 18 i = R.a 18 m.toNat) : KD R f (m + 1) = KD s f m + 1 := by
  have ev : (((R.a 18 m.toNat).toInt.toNat : Nat) : Int) = (R.a 18 m.toNat).toInt := Int.toNat_of_nonneg hv.1
  have em : ((m.toNat : Nat) : Int) = m := Int.toNat_of_nonneg hm
  refine cnt.put (v := (R.a 18 m.toNat).toInt.toNat) ?_ ?_ (fun d hd' => ?_) (by omega)
  · refine Bool.eq_false_iff.mpr (fun q => ?_)
    obtain ⟨i, a, b, e⟩ := (KDF.iff ..).mp q
    rw [ev] at e
    exact hd i a b (Int32.toInt_inj.mp e)
  · exact (KDF.iff ..).mpr ⟨m.toNat, by omega, by omega, ev.symm⟩
  · refine Bool.eq_iff_iff.mpr ((KDF.iff ..).trans (Iff.trans ⟨fun ⟨i, a, b, e⟩ => ?_, fun ⟨i, a, b, e⟩ => ⟨i, a, by omega, by rw [h i b]; exact e⟩⟩ (KDF.iff ..).symm))
    by_cases c : (i : Int) = m
    · have ei : i = m.toNat := by omega
      rw [ei] at e
      exact absurd (show d = _ by omega) hd'
    · exact ⟨i, a, by omega, by rw [← h i (by omega)]; exact e⟩
/-- what a choice keeps while cases are noted -/
def SMC (s R : CS) : Prop := (R.i 38 = s.i 38 ∧ R.i 50 = s.i 50 ∧ R.i 53 = s.i 53 ∧ R.i 56 = s.i 56 ∧ R.i 36 = s.i 36) ∧ RSQ s R (cnI s).toNat ∧ (∀ n : Nat, (n : Int) < nmI s → R.a 49 n = s.a 49 n) ∧ (∀ i : Nat, (i : Int) < ccI s → R.a 18 i = s.a 18 i ∧ R.a 19 i = s.a 19 i) ∧ ccI s ≤ ccI R
theorem SMX.smc {s R : CS} (h : SMX s R) : SMC s R := ⟨⟨h.1.1, h.1.2.1, h.1.2.2.1, h.1.2.2.2.1, h.1.2.2.2.2.2⟩, h.2.1, h.2.2.1, h.2.2.2, by unfold ccI; rw [h.1.2.2.2.2.1]; exact Int.le_refl _⟩
theorem CNR.smc {f : Int} {s R : CS} {t : Int32} (h : CNR f s R t) : SMC s R := ⟨h.2.2.2.2.1, h.2.2.2.2.2.1, h.2.2.2.2.2.2.1, h.2.2.2.2.2.2.2.1, by rw [h.2.2.1]; omega⟩
theorem SMC.tr {s R T : CS} (h : SMC s R) (g : SMC R T) : SMC s T := by
  obtain ⟨⟨a1, a2, a3, a4, a5⟩, a6, a7, a8, a9⟩ := h
  obtain ⟨⟨b1, b2, b3, b4, b5⟩, b6, b7, b8, b9⟩ := g
  have ecn : cnI R = cnI s := by unfold cnI; rw [a3]
  have enm : nmI R = nmI s := by unfold nmI; rw [a2]
  rw [ecn] at b6
  rw [enm] at b7
  exact ⟨⟨b1.trans a1, b2.trans a2, b3.trans a3, b4.trans a4, b5.trans a5⟩, a6.tr b6, fun n hn => (b7 n hn).trans (a7 n hn), fun i hi => ⟨(b8 i (by omega)).1.trans (a8 i hi).1, (b8 i (by omega)).2.trans (a8 i hi).2⟩, by omega⟩
/-- in a choice that began at s0 -/
def CHS (c : List Nat) (X : List (Nat × List Nat)) (s0 s : CS) (w : Int) : Prop := s0.i 32 = 0 ∧ sgI s = sgI s0 + 1 ∧ SMC s0 s ∧ (eI s0 + 8 ≤ plI s ∧ eI s0 ≤ eI s ∧ 3 * (ccI s - ccI s0) + plI s0 + w ≤ plI s + KD s (ccI s0) (ccI s)) ∧ (∀ i : Nat, ccI s0 ≤ (i : Int) → (i : Int) < ccI s → ∃ k : Nat, (s.a 19 i).toInt = (k : Int) ∧ (k, c) ∈ X)
theorem CHS.w {c : List Nat} {X X' : List (Nat × List Nat)} {s0 s : CS} {w w' : Int} (h : CHS c X s0 s w) (hw : w' ≤ w) (hX : ∀ q ∈ X, q ∈ X') : CHS c X' s0 s w' := by
  obtain ⟨a1, a2, a3, ⟨a4, a5, a6⟩, a7⟩ := h
  refine ⟨a1, a2, a3, ⟨a4, a5, by omega⟩, fun i q1 q2 => ?_⟩
  obtain ⟨k, k1, k2⟩ := a7 i q1 q2
  exact ⟨k, k1, hX _ k2⟩
theorem CHS.go {c : List Nat} {X : List (Nat × List Nat)} {s0 s T : CS} {w : Int} (h : CHS c X s0 s w) (sm : SMR s T) {d : Int} (hd : 0 ≤ d) (hp : plI s + d ≤ plI T) (he : eI s ≤ eI T) : CHS c X s0 T (w + d) := by
  obtain ⟨a1, a2, a3, ⟨a4, a5, a6⟩, a7⟩ := h
  have ecc : ccI T = ccI s := by unfold ccI; rw [sm.1.2.2.2.2.2.1]
  have esg : sgI T = sgI s := by unfold sgI; rw [sm.1.1]
  have ek : KD T (ccI s0) (ccI s) = KD s (ccI s0) (ccI s) := KD.eq (fun i hi => (sm.2.2.2 i hi).1)
  refine ⟨a1, by omega, a3.tr sm.x.smc, ⟨by omega, by omega, by rw [ecc, ek]; omega⟩, fun i q1 q2 => ?_⟩
  rw [ecc] at q2
  rw [(sm.2.2.2 i q2).2]
  exact a7 i q1 q2
theorem CHS.val {c : List Nat} {X : List (Nat × List Nat)} {s0 s T : CS} {t : Int32} (h : CHS c X s0 s 12) (h0 : 0 ≤ ccI s0) (g : CNR (ccI s0) s T t) (ht : ∃ k : Nat, t.toInt = (k : Int) ∧ (k, c) ∈ X) : CHS c X s0 T 11 := by
  obtain ⟨a1, a2, a3, ⟨a4, a5, a6⟩, a7⟩ := h
  have sm := g.smc
  obtain ⟨g1, ⟨g2, g3⟩, g4, g5, g6, g7, g8, g9, g10, g11, g12⟩ := g
  have le := a3.2.2.2.2
  have esg : sgI T = sgI s := by unfold sgI; rw [g5]
  have up := KD.up (f := ccI s0) (fun i hi => (g9 i hi).1)
  refine ⟨a1, by omega, a3.tr sm, ⟨by omega, by omega, ?_⟩, fun i q1 q2 => ?_⟩
  · rw [g4]
    rcases g11 with q | q
    · omega
    · have := KD.one (f := ccI s0) (by omega) le (fun i hi => (g9 i hi).1) q g12
      omega
  · by_cases e : (i : Int) < ccI s
    · rw [(g9 i e).2]; exact a7 i q1 e
    · have ei : i = (ccI s).toNat := by omega
      rw [ei, g10]; exact ht
theorem JJ.aimF {H : HB} {x y : Int} {c : List Nat} {X : List (Nat × List Nat)} {P P' : List Nat} {lim : List Int} {s R : CS} {t : Int32} (h : JJ H x y c X P lim s) (ha : AIM s R t) (hx : x ≤ 10000) (hy : y ≤ 100) (hT : s.i 32 = 0 → (∃ k : Nat, t.toInt = (k : Int) ∧ (k, c) ∈ X) ∧ ∀ k ∈ P, k ∈ P' ∨ (k : Int) = t.toInt) : JJ H x y c X P' lim R := by
  by_cases nf : s.i 32 = 0
  · exact h.aim ha hx (by omega) (fun q => (hT q).1) (hT nf).2
  · have j := h.aim (P' := P) ha hx (by omega) (fun q => absurd q nf) (fun k hk => Or.inl hk)
    exact ⟨j.1, fun q => absurd (ha.f.1.symm.trans q) nf⟩
/-- an arm that is a block -/
def ABC (H : HB) (k : Int) (B : CS → Int32 → Option (Unit × CS)) : Prop := ∀ (x y : Int) (c : List Nat) (X : List (Nat × List Nat)) (P : List Nat) (lim : List Int) (s : CS) (t : Int32), x ≤ 3900 → y + 3 * k ≤ 87 ∧ 0 ≤ k → JJ H x y c X P lim s → s.i 32 = 0 → s.i 43 = 123 → 23 - sgI s ≤ k → SGS s (cnI s).toNat ≤ sgI s - 1 → WCS s (cnI s).toNat + 10 ≤ eI s → (∃ m : Nat, t.toInt = (m : Int) ∧ (m, c) ∈ X) → ok (B s t) (fun R => JJ H (x - 50) y c X P lim R.2 ∧ (R.2.i 32 = 0 → EXR s R.2))
/-- what is known where a choice begins -/
def S0F (s : CS) : Prop := NR s (cnI s).toNat ∧ SGS s (cnI s).toNat ≤ sgI s ∧ WCS s (cnI s).toNat ≤ eI s ∧ 0 ≤ ccI s ∧ 3 * ccI s ≤ plI s
theorem q_arm100 {N : Nat} {H : HB} (hN : 1000 ≤ N) {k : Int} {E1 : CS → Option (Unit × CS)} {E2 : CS → Option (Int32 × CS)} (hE : EC H k E1) (hB : ABC H k (f_X7_armBlock N E1 E2)) {x y : Int} {c : List Nat} {X : List (Nat × List Nat)} {P : List Nat} {lim : List Int} {s0 σ : CS} {b : Nat} {x3 x4 x5 : Int32} (hx : x ≤ 3900) (hy : y + 3 * k ≤ 87 ∧ 0 ≤ k) (h0 : S0F s0) (hk : 22 - sgI s0 ≤ k) (h : JJ H x y c X (b :: P) lim σ) (h3 : σ.i 32 = 0 → ∃ m : Nat, x3.toInt = (m : Int) ∧ (m, c) ∈ X) (h4 : σ.i 32 = 0 → x4.toInt = (b : Int) ∧ (b, c) ∈ X) (hs : σ.i 32 = 0 → CHS c X s0 σ 8) : ok (f_X1_arm_100 N E1 E2 σ x3 x4 x5) (fun R => (JJ H x y c X P lim R.2 ∧ (R.2.i 32 = 0 → σ.i 32 = 0 ∧ CHS c X s0 R.2 8)) ∧ R.1 = x5) := by
  unfold f_X1_arm_100 f_X1_arm_153
  refine ok_bind (q_expect hN h.1 134) (fun p hp => ?_)
  have hp' : JJ H (x - 100) y c X (b :: P) lim p.2 ∧ (p.2.i 32 = 0 → σ.i 32 = 0 ∧ CHS c X s0 p.2 10 ∧ eI s0 + 10 ≤ plI p.2) := by
    rcases hp with hf | ⟨p1, p2⟩
    · exact ⟨JJ.flt h.1 hf, fun q => absurd q hf.2.2.2.1⟩
    · obtain ⟨j, e⟩ := h.tk p2 (fun _ => by rw [p1]; decide)
      refine ⟨j, fun q => ?_⟩
      have ex := e q
      have gn := (p2.gain h.1.2.2.1).2.2.2.2.2.1 (by rw [p1]; decide)
      have ch := hs ex.1
      exact ⟨ex.1, ch.go ex.2.2 (by omega) gn.1 ex.2.1.2, by have := ch.2.2.2.1.1; omega⟩
  obtain ⟨j1, s1⟩ := hp'
  refine ok_bind (q_aim N p.2 x4) (fun q hq => ?_)
  have j2 : JJ H (x - 100) y c X P lim q.2 := j1.aimF hq (by omega) (by omega) (fun nf => by
    have z := h4 (s1 nf).1
    refine ⟨⟨b, z⟩, fun m hm => ?_⟩
    rcases List.mem_cons.mp hm with e | e
    · right; rw [e]; exact z.1.symm
    · exact Or.inl e)
  have fq := hq.f
  have s2 : q.2.i 32 = 0 → σ.i 32 = 0 ∧ CHS c X s0 q.2 10 ∧ eI s0 + 10 ≤ plI q.2 := fun nf => by
    obtain ⟨z1, z2, z3⟩ := s1 (fq.1.symm.trans nf)
    refine ⟨z1, ?_, by rw [fq.2.1]; exact z3⟩
    have := z2.go hq.smr (d := 0) (by omega) (by rw [fq.2.1]; omega) (by rw [fq.2.2]; exact Int.le_refl _)
    exact this
  clear s1 j1 hp fq hq
  refine ok_bind (q_found q.2 123) (fun r hr => ?_)
  obtain ⟨r1, r2⟩ := hr
  rw [r1]
  rcases r2 with ⟨r2, r3⟩ | ⟨r2, r3⟩
  · rw [if_pos r2]
    refine ok_bind (q_expression (E2 := E2) hN hE (x - 100) y c X P lim q.2 (by omega) (by omega) j2 (fun nf => ?_)) (fun u hu => ?_)
    · have := (s2 nf).2.1.2.1; omega
    obtain ⟨j3, e3⟩ := hu
    refine ok_bind (q_expect hN j3.1 59) (fun v hv => ?_)
    have hv' : JJ H (x - 150) y c X P lim v.2 ∧ (v.2.i 32 = 0 → σ.i 32 = 0 ∧ CHS c X s0 v.2 8) := by
      rcases hv with hf | ⟨p1, p2⟩
      · exact ⟨JJ.flt j3.1 hf, fun q => absurd q hf.2.2.2.1⟩
      · obtain ⟨j, e⟩ := j3.tk p2 (fun _ => by rw [p1]; decide)
        refine ⟨j.w (by omega) (Int.le_refl _), fun z => ?_⟩
        have ex := e z
        have ex3 := e3 ex.1
        have ee := ex3.tr ex
        have w := s2 ex3.1
        exact ⟨w.1, (w.2.1.go ee.2.2 (d := 0) (by omega) (by have := ee.2.1.1; omega) ee.2.1.2).w (by omega) (fun _ h => h)⟩
    obtain ⟨j4, s4⟩ := hv'
    refine ok_bind (q_add N v.2 30 x3) (fun w hw => ok_some ⟨⟨?_, fun z => ?_⟩, rfl⟩)
    · exact (j4.add hw (by omega) (by omega) (fun nf DT KT qX _ _ => by
        obtain ⟨m, m1, m2⟩ := h3 (s4 nf).1
        exact IOK.jmp (by decide) m1 m2 qX)).w (by omega) (Int.le_refl _)
    · have z' := s4 (hw.f32.1.symm.trans z)
      refine ⟨z'.1, ?_⟩
      have := z'.2.go hw.smr (d := 0) (by omega) (by rw [hw.pl.1]; omega) (by rw [hw.pl.2]; exact Int.le_refl _)
      exact this
  · rw [r2, if_neg (by decide)]
    have nf : q.2.i 32 = 0 := by
      by_cases z : q.2.i 32 = 0
      · exact z
      · have := j2.1.2.2.2.2.1 z
        rw [r3] at this
        exact absurd this (by decide)
    obtain ⟨w1, w2, w3⟩ := s2 nf
    obtain ⟨f1, f2, f3, f4, f5⟩ := h0
    obtain ⟨i1, i2, i3, i4, i5⟩ := w2.2.2.1.2.1.sums f1
    have ecn : cnI q.2 = cnI s0 := by unfold cnI; rw [w2.2.2.1.1.2.2.1]
    have esg := w2.2.1
    have ge := eI.ge q.2
    refine ok_bind (hB (x - 100) y c X P lim q.2 x3 (by omega) (by omega) j2 nf r3 (by omega) (by rw [ecn, i2]; omega) (by rw [ecn, i1]; omega) (h3 w1)) (fun u hu => ok_some ⟨⟨hu.1.w (by omega) (Int.le_refl _), fun z => ⟨w1, ?_⟩⟩, rfl⟩)
    have ex := hu.2 z
    exact (w2.go ex.2.2 (d := 0) (by omega) (by have := ex.2.1.1; omega) ex.2.1.2).w (by omega) (fun _ h => h)
