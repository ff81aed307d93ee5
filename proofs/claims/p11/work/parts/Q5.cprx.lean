/-! the class's reading: a row is counted -/
theorem JK.row {H : HB} {x y : Int} {cD c c' d d' : List Nat} {X : List (Nat × List Nat)} {P P' : List Nat} {lim lim' : List Int} {s R : CS} {a m : Nat} (h : JK H x y cD c d X P lim s) (nf : s.i 32 = 0) (hb : CBS H R) (hm : (m : Int) = cnI s) (m4 : m < 400) (hs : SCD s R) (hc : cnI R = (m : Int) + 1) (ha : R.r 51 m = some a) (hr : RSQ s R m) (hl : (c.length : Int) ≤ SGS s m + arx R a) (hR : ∀ (DT : Nat → List Nat) (KT : Nat → Prop), (∀ q ∈ X, (q.1 : Int) < tcI s ∧ DT q.1 = q.2 ∧ ¬ KT q.1) → (∀ n : Nat, (n : Int) < nmI s → NMT (s.a 49 n) c) → ROW1 R DT KT a c c' lim' lim) (hP : ∀ k ∈ P, k ∈ P' ∨ OWS R a k) (hN : ∀ z : Int32, NMT z c → NMT z c') (hi : lmh lim' ≤ ccI s) (h30 : (R.o a 3).toInt ≤ nmI s ∧ ∀ j b : Nat, (j : Int) < cnI s → s.r 51 j = some b → (s.o b 3).toInt ≤ (R.o a 3).toInt) (hj : R.i 34 = s.i 34 ∧ R.i 43 = s.i 43 ∧ R.i 44 = s.i 44) (hd : (d'.length : Int) = dsI R ∧ d'.length ≤ 21) (hq : IQ R (m + 1)) (hw : WCS R (m + 1) ≤ eI s) (hg : SGS R (m + 1) ≤ sgI s) (h56 : R.i 56 = s.i 56 ∨ (R.i 56).toInt = (m : Int) ∧ R.o a 0 = 302) : JK H (x + 50) y cD c' d' X P' lim' R := by
  obtain ⟨g, n⟩ := h.2 nf
  refine ⟨hb, fun _ => ⟨g.row hm m4 hs hc ha hr hl hR hP hN hi h30, ?_⟩⟩
  obtain ⟨c1, c2, c3, c4, c5, c6, c7, c8, c9⟩ := n
  obtain ⟨-, ⟨e6, e7, e8, e9⟩⟩ := hs
  have etc : tcI R = tcI s := by unfold tcI; rw [e7]
  have esz : szI R = szI s := by unfold szI; rw [e6]
  have ecc : ccI R = ccI s := by unfold ccI; rw [e9]
  have esg : sgI R = sgI s := by unfold sgI; rw [hj.1]
  have epl : plI R = plI s := by unfold plI; rw [hj.2.2]
  have ee : eI R = eI s := by unfold eI; rw [epl, hj.2.1]
  have ecn : (cnI R).toNat = m + 1 := by omega
  refine ⟨by omega, by omega, by omega, by rw [esg]; exact c4, by rw [ecn]; exact hq, by rw [ecn, ee]; exact hw, by rw [ecn, esg]; exact hg, hd, ?_⟩
  rcases h56 with e | ⟨e, e2⟩
  · rw [e]
    refine ⟨c9.1, by omega, fun b q1 q2 => ?_⟩
    have lt : (s.i 56).toInt.toNat < m := by have := c9.2.1; omega
    have q := hr _ lt
    have z : s.r 51 (s.i 56).toInt.toNat = some b := q.1.symm.trans q2
    rw [(q.2 b z).1]
    exact c9.2.2 b q1 z
  · refine ⟨by omega, by omega, fun b q1 q2 => ?_⟩
    have em : (R.i 56).toInt.toNat = m := by omega
    rw [em, ha] at q2
    cases q2
    exact e2
/-- the innermost row is not between a try's blocks -/
def NG (s : CS) : Prop := ∀ m a : Nat, cnI s = (m : Int) + 1 → s.r 51 m = some a → ¬ s.o a 0 = 305
theorem SX.ng {p g d : Int} {s R : CS} (h : SX p g d s R) (hn : NG s) (nr : NR s (cnI s).toNat) : NG R := fun m a hm e => by
  have ecn : cnI R = cnI s := by unfold cnI; rw [h.2.2.2.1.2.1]
  rw [ecn] at hm
  have q := h.2.2.2.2.2.1 m (by omega)
  have z := q.1.symm.trans e
  rw [(q.2 a z).1]
  exact hn m a hm z
theorem JK.len {H : HB} {x y : Int} {cD c d : List Nat} {X : List (Nat × List Nat)} {P : List Nat} {lim : List Int} {s : CS} (h : JK H x y cD c d X P lim s) (nf : s.i 32 = 0) (ng : NG s) : (c.length : Int) ≤ SGS s (cnI s).toNat := by
  obtain ⟨D, DT, KT, -, -, -, -, -, ⟨n, n1, n2, n3⟩, -⟩ := (h.2 nf).1
  have en : (cnI s).toNat = n := by omega
  rw [en]
  exact n3.len (fun m a e1 e2 => ng m a (by omega) e2)
/-- what a statement leaves, with its row or without -/
def SRL (s R : CS) : Prop := s.i 32 = 0 ∧ (plI s + 1 ≤ plI R ∧ eI s ≤ eI R) ∧ sgI R - SGS R (cnI R).toNat = sgI s - SGS s (cnI s).toNat ∧ (cnI s ≤ cnI R ∧ cnI R ≤ cnI s + 1) ∧ RSQ s R (cnI s).toNat ∧ (∀ n : Nat, (n : Int) < nmI s → R.a 49 n = s.a 49 n) ∧ (∀ i : Nat, (i : Int) < ccI s → R.a 18 i = s.a 18 i ∧ R.a 19 i = s.a 19 i) ∧ R.i 56 = s.i 56 ∧ R.i 22 = s.i 22 ∧ nmI s ≤ nmI R ∧ (0 ≤ cnI s → cnI R = cnI s + 1 → ∀ b : Nat, R.r 51 (cnI s).toNat = some b → ¬ R.o b 0 = 305)
theorem SX.srl {p g : Int} {s R : CS} (h : SX p g 0 s R) (hp : 1 ≤ p) (hg : 0 ≤ g) (nr : NR s (cnI s).toNat) : SRL s R := by
  obtain ⟨a0, ⟨a1, a2⟩, a3, ⟨a4, a5, a6, a7⟩, a8, a9, a10, a11⟩ := h
  have ecn : cnI R = cnI s := by unfold cnI; rw [a5]
  obtain ⟨i1, i2, i3, i4, i5⟩ := a9.sums nr
  exact ⟨a0, ⟨by omega, by omega⟩, by rw [ecn, i2]; omega, by omega, a9, a10, a11, a6, a7, a8, fun _ z => by omega⟩
/-- with the way that was gone since s0 -/
def PRX (H : HB) (x y : Int) (cD c d : List Nat) (X : List (Nat × List Nat)) (P : List Nat) (lim : List Int) (v : Int32) (m a : Nat) (s0 : CS) (p g e : Int) (s : CS) : Prop := PRK H x y cD c d X P lim v m a s ∧ (s.i 32 = 0 → SX p g e s0 (CS.setI s 53 v))
theorem PRX.w {H : HB} {x y x' y' : Int} {cD c d : List Nat} {X : List (Nat × List Nat)} {P : List Nat} {lim : List Int} {v : Int32} {m a : Nat} {s0 s : CS} {p g e : Int} (h : PRX H x y cD c d X P lim v m a s0 p g e s) (hx : x ≤ x') (hy : y ≤ y') : PRX H x' y' cD c d X P lim v m a s0 p g e s := ⟨h.1.w hx hy, h.2⟩
theorem PRX.new {H : HB} {x y : Int} {cD c d : List Nat} {X : List (Nat × List Nat)} {P : List Nat} {lim : List Int} {v : Int32} {m a : Nat} {s0 s R : CS} {p g e : Int} (h : PRX H x y cD c d X P lim v m a s0 p g e s) (hr : NTG s R) (hx : x ≤ 10000) (hy : y ≤ 100) (t : List Nat) : PRX H x (y + 1) cD c d (((tcI s).toNat, t) :: X) ((tcI s).toNat :: P) lim v m a s0 p g e R ∧ R.o = s.o ∧ R.ol = s.ol := by
  obtain ⟨⟨h1, ⟨h2, h3, h4, h5, h5'⟩, h6, h7⟩, h8⟩ := h
  have sh := hr.sh v
  obtain ⟨⟨b1, b2, b3, b4, b5, b6, b7, b8, b9, b10⟩, b11, b12, b13, b14⟩ := (show NTG s R from hr)
  have ecn : cnI R = cnI s := by unfold cnI; rw [b11 53 (by decide)]
  have e32 : R.i 32 = s.i 32 := b11 32 (by decide)
  refine ⟨⟨⟨hr.cb h1 (fun q => by
    have w := h7.2 ((ci_ne _ _ _ (by decide)).trans q)
    exact ⟨w.1.tc0.1, by have := (w.2.sz h7.1.2.2.1 h7.1.2.2.2.2.2.2.1.1 hx hy).2; exact Int.le_trans this (by omega)⟩), ⟨by unfold oK at *; rw [b2, b3]; exact h2, by rw [b7]; exact h3, h4, h5, by rw [ecn]; exact h5'⟩, by rw [e32, ecn]; exact h6, h7.new sh hx hy t⟩, fun q => ?_⟩, b4, b5⟩
  have w := h8 (e32.symm.trans q)
  exact (w.tr (sh.sx ((ci_ne _ _ _ (by decide)).trans (e32.symm.trans q)))).w (by omega) (by omega) (by omega)
theorem PRX.add {H : HB} {x y : Int} {cD c d c1 : List Nat} {X : List (Nat × List Nat)} {P : List Nat} {lim : List Int} {v : Int32} {m a : Nat} {s0 s R : CS} {p g e : Int} {o u : Int32} (h : PRX H x y cD c d X P lim v m a s0 p g e s) (ha : ADD s R o u) (hx : x ≤ 10000) (hy : y ≤ 100) (hl : s.i 32 = 0 → cD.length ≤ 21) (hI : s.i 32 = 0 → ∀ (DT : Nat → List Nat) (KT : Nat → Prop), (∀ q ∈ X, (q.1 : Int) < tcI s ∧ DT q.1 = q.2 ∧ ¬ KT q.1) → IOK (tcI s) DT KT o u cD c1) : PRX H (x + 1) y c1 c d X P lim v m a s0 p g e R ∧ R.o = s.o ∧ R.ol = s.ol := by
  obtain ⟨⟨h1, ⟨h2, h3, h4, h5, h5'⟩, h6, h7⟩, h8⟩ := h
  have sh := ha.sh v
  obtain ⟨⟨b1, b2, b3, b4, b5, b6, b7, b8, b9, b10⟩, b11, b12, b13, b14, b15⟩ := (show ADD s R o u from ha)
  have ecn : cnI R = cnI s := by unfold cnI; rw [b11 53 (by decide)]
  have e32 : R.i 32 = s.i 32 := b11 32 (by decide)
  refine ⟨⟨⟨ha.cb h1, ⟨by unfold oK at *; rw [b2, b3]; exact h2, by rw [b7]; exact h3, h4, h5, by rw [ecn]; exact h5'⟩, by rw [e32, ecn]; exact h6, h7.add sh hx hy hl (fun q DT KT z _ _ => hI q DT KT z)⟩, fun q => ?_⟩, b4, b5⟩
  have w := h8 (e32.symm.trans q)
  exact (w.tr (sh.sx ((ci_ne _ _ _ (by decide)).trans (e32.symm.trans q)))).w (by omega) (by omega) (by omega)
theorem PRX.aim {H : HB} {x y : Int} {cD c d : List Nat} {X : List (Nat × List Nat)} {P P' : List Nat} {lim : List Int} {v : Int32} {m a : Nat} {s0 s R : CS} {p g e : Int} {t : Int32} (h : PRX H x y cD c d X P lim v m a s0 p g e s) (ha : AIM s R t) (hx : x ≤ 10000) (hy : y ≤ 100) (hT : s.i 32 = 0 → ∃ k : Nat, t.toInt = (k : Int) ∧ (k, cD) ∈ X) (hP : s.i 32 = 0 → ∀ k ∈ P, k ∈ P' ∨ (k : Int) = t.toInt) : PRX H x y cD c d X P' lim v m a s0 p g e R ∧ R.o = s.o ∧ R.ol = s.ol := by
  obtain ⟨⟨h1, ⟨h2, h3, h4, h5, h5'⟩, h6, h7⟩, h8⟩ := h
  have sh := ha.sh v
  obtain ⟨⟨b1, b2, b3, b4, b5, b6, b7, b8, b9, b10⟩, b11, b13, b14⟩ := (show AIM s R t from ha)
  have ecn : cnI R = cnI s := by unfold cnI; rw [b11]
  have e32 : R.i 32 = s.i 32 := by rw [b11]
  refine ⟨⟨⟨ha.cb h1 (fun q => (h7.2 ((ci_ne _ _ _ (by decide)).trans q)).1.tc0.2), ⟨by unfold oK at *; rw [b2, b3]; exact h2, by rw [b7]; exact h3, h4, h5, by rw [ecn]; exact h5'⟩, by rw [e32, ecn]; exact h6, h7.aim sh hx hy (fun q DT KT z _ => ?_) hP⟩, fun q => ?_⟩, b4, b5⟩
  · obtain ⟨k, k1, k2⟩ := hT q
    have w := z (k, cD) k2
    have ek : t.toInt.toNat = k := by omega
    rw [ek]
    exact ⟨by omega, by rw [k1]; exact w.1, w.2.1⟩
  · have w := h8 (e32.symm.trans q)
    exact (w.tr (sh.sx ((ci_ne _ _ _ (by decide)).trans (e32.symm.trans q)))).w (by omega) (by omega) (by omega)
theorem PRX.adv {H : HB} {x y x' y' : Int} {cD c d : List Nat} {X : List (Nat × List Nat)} {P : List Nat} {lim : List Int} {v : Int32} {m a : Nat} {s0 s R : CS} {p g e p' g' : Int} (h : PRX H x y cD c d X P lim v m a s0 p g e s) (ha : ADV s R) (hxy : s.i 32 = 0 → x + 100 * plI s ≤ x' + 100 * plI R ∧ y + eI s ≤ y' + eI R) (hpg : s.i 32 = 0 → plI s + p' ≤ plI R ∧ eI s + g' ≤ eI R) : PRX H x' y' cD c d X P lim v m a s0 (p + p') (g + g') e R ∧ R.o = s.o ∧ R.ol = s.ol := by
  obtain ⟨⟨h1, ⟨h2, h3, h4, h5, h5'⟩, h6, h7⟩, h8⟩ := h
  have sh := ha.sh v
  have t9 := ha.1.t9
  have e32 : R.i 32 = s.i 32 := ha.f32
  obtain ⟨⟨a1, a2, a3, a4, a5, a6, a7, a8, a9, a10⟩, b⟩ := t9
  have ecn : cnI R = cnI s := by unfold cnI; rw [b 53 (by omega) (by omega)]
  refine ⟨⟨⟨ha.1.t9.cb h1 ha.2.1 (fun q => ha.2.2.2.2 (h1.2.2.2.2.1 (by rw [← e32]; exact q))) (fun q => e32.symm.trans q), ⟨by unfold oK at *; rw [a2, a3]; exact h2, by rw [a7]; exact h3, h4, h5, by rw [ecn]; exact h5'⟩, by rw [e32, ecn]; exact h6, h7.adv sh hxy⟩, fun q => ?_⟩, a4, a5⟩
  have w := h8 (e32.symm.trans q)
  exact (w.tr (sh.smr.sx ((ci_ne _ _ _ (by decide)).trans (e32.symm.trans q)) (hpg (e32.symm.trans q)))).w (Int.le_refl _) (Int.le_refl _) (by omega)
/-- the row's cell gets other numbers -/
theorem PRX.cel {H : HB} {x y : Int} {cD c d : List Nat} {X : List (Nat × List Nat)} {P : List Nat} {lim : List Int} {v : Int32} {m a : Nat} {s0 s R : CS} {p g e : Int} {f : Nat → Int32} {l : Int64} (h : PRX H x y cD c d X P lim v m a s0 p g e s) (ho : OUV s R a f l) (hb : CBS H R) : PRX H x y cD c d X P lim v m a s0 p g e R := by
  obtain ⟨⟨h1, ⟨h2, h3, h4, h5, h5'⟩, h6, h7⟩, h8⟩ := h
  obtain ⟨⟨a1, a2, a3, a4, a5, a6, a7, a8, a9, a10⟩, a11, a12, a13⟩ := ho
  have ecn : cnI R = cnI s := by unfold cnI; rw [a10]
  have e32 : R.i 32 = s.i 32 := by rw [a10]
  have rq : s.i 32 = 0 → RSQ (CS.setI s 53 v) (CS.setI R 53 v) m := fun q i hi => by
    refine ⟨by rw [cr_setI, cr_setI, a5], fun b eb => ?_⟩
    have eb' : s.r 51 i = some b := eb
    have ne : b ≠ a := fun z => by
      rw [z] at eb'
      have := h1.1.2.2.1 i m a (by omega) h4 eb' h3
      omega
    exact ⟨by rw [co_setI, co_setI]; exact (a11 b ne).1, by rw [col_setI, col_setI]; exact (a11 b ne).2⟩
  have vi : ∀ j : Nat, (CS.setI R 53 v).i j = (CS.setI s 53 v).i j := fun j => by
    show va_up R.i 53 v j = va_up s.i 53 v j
    rw [a10]
  have cV : s.i 32 = 0 → (cnI (CS.setI s 53 v)).toNat = m := fun q => by
    have e : cnI (CS.setI s 53 v) = v.toInt := by unfold cnI; rw [ci_at]
    have := (h6 q).1
    omega
  refine ⟨⟨hb, ⟨by unfold oK at *; rw [a2, a3]; exact h2, by rw [a5]; exact h3, h4, h5, by rw [ecn]; exact h5'⟩, by rw [e32, ecn]; exact h6, ?_⟩, fun q => ?_⟩
  · refine h7.rsq (hb.sh v ⟨h5, by rw [ecn]; exact h5'⟩) (vi 32) (fun q => ⟨⟨?_, vi 20, vi 21, vi 50, vi 22⟩, ?_, vi 34, vi 38, vi 43, vi 44, vi 53, vi 56⟩)
    · rw [ca_setI, ca_setI, a9]; exact ⟨rfl, rfl, rfl, rfl, rfl⟩
    · have q' : s.i 32 = 0 := (ci_ne _ _ _ (by decide)).symm.trans q
      rw [cV q']; exact rq q'
  · have q' := e32.symm.trans q
    obtain ⟨w0, w1, w2, w3, w4, w5, w6, w7⟩ := h8 q'
    have epl : plI (CS.setI R 53 v) = plI (CS.setI s 53 v) := by unfold plI; rw [vi 44]
    have ee : eI (CS.setI R 53 v) = eI (CS.setI s 53 v) := by unfold eI; rw [epl, vi 43]
    have esg : sgI (CS.setI R 53 v) = sgI (CS.setI s 53 v) := by unfold sgI; rw [vi 34]
    have enm : nmI (CS.setI R 53 v) = nmI (CS.setI s 53 v) := by unfold nmI; rw [vi 50]
    have e0 : (cnI s0).toNat = m := by
      rw [← cV q']
      unfold cnI
      rw [w3.2.1]
    refine ⟨w0, by rw [epl, ee]; exact w1, by rw [esg]; exact w2, ⟨(vi 38).trans w3.1, (vi 53).trans w3.2.1, (vi 56).trans w3.2.2.1, (vi 22).trans w3.2.2.2⟩, by rw [enm]; exact w4, w5.tr (by rw [e0]; exact rq q'), fun n hn => ?_, fun i hi => ?_⟩
    · rw [← w6 n hn, ca_setI, ca_setI, a9]
    · rw [← (w7 i hi).1, ← (w7 i hi).2, ca_setI, ca_setI, a9]; exact ⟨rfl, rfl⟩
