/-! both readers: a block begins -/
/-- the top of the rows, what it waits for -/
def MLI (c : CEL) (S : CS) (s : RS) : Prop := ¬ isOne (S.o c.2.1 0) ∧ ¬ S.o c.2.1 0 = 305 ∧ tpI s = (ceT c : Int) + (wid (S.o c.2.1 0) : Int) - 1 ∧ s.a 64 (ceT c + wid (S.o c.2.1 0) - 1) = 1 ∧ ((s.a 65 (ceT c + wid (S.o c.2.1 0) - 1) = 0 ∧ S.i 36 = 1) ∨ (s.a 65 (ceT c + wid (S.o c.2.1 0) - 1) = 1 ∧ s.i 75 = S.i 36)) ∧ (S.o c.2.1 0 = 218 → s.a 65 (ceT c) = 3 ∧ S.o c.2.1 5 = 1)
def NMC (c : CEL) (S : CS) : Prop := isOne (S.o c.2.1 0) → ¬ S.o c.2.1 0 = 207 → ¬ S.o c.2.1 0 = 304 → S.i 50 = S.o c.2.1 3
def MBO (c : CEL) (S : CS) (s : RS) : Prop := isOne (S.o c.2.1 0) ∧ S.o c.2.1 5 = 0 ∧ tpI s = ((ceT c + 1 : Nat) : Int) ∧ s.a 64 (ceT c + 1) = 2 ∧ s.a 65 (ceT c + 1) = 0 ∧ S.i 36 = 1 ∧ (¬ s.i 10 = 410 ∧ ¬ s.i 10 = 411) ∧ NMC c S
def MEN (c : CEL) (S : CS) (s : RS) : Prop := isOne (S.o c.2.1 0) ∧ S.o c.2.1 5 = 1 ∧ tpI s = (ceT c : Int) ∧ s.i 75 = S.i 36 ∧ NMC c S
def MSW (c : CEL) (S : CS) (s : RS) : Prop := S.o c.2.1 0 = 218 ∧ s.a 65 (ceT c) = 2 ∧ tpI s = (ceT c : Int) ∧ s.a 70 (ceT c) = S.i 36 ∧ S.o c.2.1 5 = 0
def MGU (c : CEL) (S : CS) (s : RS) : Prop := S.o c.2.1 0 = 305 ∧ tpI s = (ceT c : Int) ∧ S.i 50 = S.o c.2.1 3 ∧ (S.i 43 = 215 ∨ S.i 43 = 216) ∧ 8 * ((s.i 38).toInt - 2) + 1 ≤ (s.i 11).toInt
/-- behind a statement -/
def MOR (c : CEL) (S : CS) (s : RS) : Prop := (MLI c S s ∨ MEN c S s) ∧ (S.i 36 = 0 ∨ S.i 36 = 1)
def MOD (c : CEL) (S : CS) (s : RS) : Prop := (MLI c S s ∨ MBO c S s ∨ MEN c S s ∨ MSW c S s ∨ MGU c S s) ∧ (S.i 36 = 0 ∨ S.i 36 = 1)
/-- what a label that stands on top must have, by the token behind it -/
def lcd (s : RS) : Int := if s.i 10 = 415 ∨ s.i 10 = 416 ∨ s.i 10 = 417 then -3 else if s.i 10 = 2 then -2 else -1
def cod (c : CEL) (S : CS) (s : RS) : Int := if S.o c.2.1 0 = 303 ∧ S.o c.2.1 5 = 0 then lcd s else -9
/-- a row more stands on top -/
def NEW (d : Int32) (B : CS) (b : RS) (t0 : Nat) (c : CEL) (L : List CEL) (R : CS) (u : RS) (J : List RVW → CS → RS → Prop) : Prop := ∃ c1 : CEL, COR d B b t0 (c1 :: c :: L) (cod c1 R u) R u ∧ TOP R u c1 ∧ MOD c1 R u ∧ J (vws R u (c1 :: c :: L)) R u
/-- frames of a row of the sort 301 -/
theorem RFR.m301 {S : CS} {s : RS} {a t g w : Nat} (e : S.o a 0 = 301) (h : F301 s t (S.o a 3)) : RFR S s a t g w := by
  have n : ∀ v : Int32, ¬ v = 301 → ¬ S.o a 0 = v := fun v hv q => hv (q.symm.trans e)
  refine ⟨fun q => absurd q (n 300 (by decide)), fun _ => h, fun q => absurd q (n 302 (by decide)), fun q => absurd q (n 303 (by decide)), fun q => absurd q (n 203 (by decide)), fun q => absurd q (n 204 (by decide)), fun q => absurd q (n 205 (by decide)), fun q => absurd q (n 206 (by decide)), fun q => absurd q (n 207 (by decide)), fun q => absurd q (n 304 (by decide)), fun q => absurd q (n 212 (by decide)), fun q => absurd q (n 218 (by decide)), fun q => ?_⟩
  rcases q with z | z | z | z
  · exact absurd z (n 213 (by decide))
  · exact absurd z (n 215 (by decide))
  · exact absurd z (n 305 (by decide))
  · exact absurd z (n 216 (by decide))
/-- a row that is no switch and no try -/
theorem CST.pl {S : CS} {s : RS} {c : CEL} {m e k : Int} (h1 : S.r 51 c.1 = some c.2.1) (h2 : c.1 < 400) (h3 : RFR S s c.2.1 (ceT c) (ceG c) (ceW c)) (n1 : ¬ S.o c.2.1 0 = 218) (n2 : ¬ isTy (S.o c.2.1 0)) : CST S s c m e k m e k := ⟨h1, h2, h3, fun _ => ⟨rfl, rfl⟩, fun q => absurd q n1, fun _ => rfl, fun q => absurd q n2⟩
/-- push: what the class keeps -/
theorem PSR.z {S R : CS} {a m : Nat} {x1 x3 : Int32} (h : PSR S R a m x1 x3) (hm : (S.i 53).toInt = (m : Int)) (m4 : m < 399) (h54 : 0 ≤ (S.i 54).toInt ∧ (S.i 54).toInt < 2000) : CKZ S R ∧ (R.i 53).toInt = (S.i 53).toInt + 1 ∧ (R.i 54).toInt = (S.i 54).toInt + 1 ∧ R.i 55 = S.i 55 ∧ R.a 52 = S.a 52 ∧ R.i 21 = S.i 21 ∧ R.i 44 = S.i 44 := by
  obtain ⟨⟨a1, a2, a3⟩, i1, ⟨i53, i54⟩, r1, r2, w, nb, o1, -⟩ := h
  have e53 : (R.i 53).toInt = (S.i 53).toInt + 1 := by rw [i53]; exact ad1 (by omega) (by omega)
  have e54 : (R.i 54).toInt = (S.i 54).toInt + 1 := by rw [i54]; exact ad1 h54.1 (by omega)
  have e55 := i1 55 (by decide) (by decide)
  refine ⟨⟨i1 22 (by decide) (by decide), fun k hk => r2 51 k (fun z => by omega), fun k b hk hb => ?_, fun k _ => by rw [a1], by omega, by rw [e55]; exact Int.le_refl _, fun k _ => by rw [a1], fun k h1 h2 => by rw [e55] at h2; omega⟩, e53, e54, e55, by rw [a1], i1 21 (by decide) (by decide), i1 44 (by decide) (by decide)⟩
  exact o1 b (nb k b (by omega) (by omega) hb)
/-- push: the rows are paid -/
theorem PSR.ri {S R : CS} {a m : Nat} {x1 x3 : Int32} (h : PSR S R a m x1 x3) (w : RWI S) (hm : (S.i 53).toInt = (m : Int)) (m4 : m < 399) (hq : IQ R (m + 1)) (hw : WCS R (m + 1) ≤ eI R) (hs : SGS R (m + 1) ≤ sgI R) : RWI R := by
  obtain ⟨-, -, ⟨i53, -⟩, r1, r2, z, -⟩ := h
  have e53 : (R.i 53).toInt = (m : Int) + 1 := by rw [i53, ad1 (by omega) (by omega), hm]
  have ec : (cnI R).toNat = m + 1 := by
    show (R.i 53).toInt.toNat = m + 1
    rw [e53]
    omega
  have nr := w.2.2.2.1.2
  have es : (cnI S).toNat = m := by
    show (S.i 53).toInt.toNat = m
    rw [hm]
    exact Int.toNat_natCast _
  rw [es] at nr
  refine ⟨z.1, z.2.1, z.2.2, ⟨by show 0 ≤ (R.i 53).toInt; omega, ?_⟩, by rw [ec]; exact hq, by rw [ec]; exact hw, by rw [ec]; exact hs⟩
  rw [ec]
  intro i hi
  by_cases c : i = m
  · exact ⟨a, by rw [c]; exact r1⟩
  · obtain ⟨b, hb⟩ := nr i (by omega)
    exact ⟨b, by rw [r2 51 i (fun z => c z.2)]; exact hb⟩
theorem PSR.rsq {S R : CS} {a m : Nat} {x1 x3 : Int32} (h : PSR S R a m x1 x3) (m4 : m < 399) : RSQ S R m := fun i hi => by
  obtain ⟨-, -, -, -, r2, -, nb, o1, -⟩ := h
  exact ⟨r2 51 i (fun z => by omega), fun b hb => o1 b (nb i b (by omega) (by omega) hb)⟩
/-- the class changes where nothing of it is asked -/
theorem ENV.gx {d : Int32} {S R : CS} {s : RS} (h : ENV d S s) (ei : ∀ j : Nat, j ≠ 21 → j ≠ 36 → j ≠ 38 → j ≠ 53 → j ≠ 54 → j ≠ 55 → j ≠ 56 → R.i j = S.i j) (ea : R.a 0 = S.a 0 ∧ R.a 9 = S.a 9 ∧ R.a 49 = S.a 49) (eb : R.b = S.b) (el : R.l = S.l) (w : RWI R) (sj : SJB R s) (t21 : 0 ≤ (R.i 21).toInt ∧ (R.i 21).toInt ≤ 3 * (s.i 11).toInt + 8) : ENV d R s := by
  have i32 := ei 32 (by decide) (by decide) (by decide) (by decide) (by decide) (by decide) (by decide)
  have i34 := ei 34 (by decide) (by decide) (by decide) (by decide) (by decide) (by decide) (by decide)
  have i41 := ei 41 (by decide) (by decide) (by decide) (by decide) (by decide) (by decide) (by decide)
  have i42 := ei 42 (by decide) (by decide) (by decide) (by decide) (by decide) (by decide) (by decide)
  have i43 := ei 43 (by decide) (by decide) (by decide) (by decide) (by decide) (by decide) (by decide)
  have i44 := ei 44 (by decide) (by decide) (by decide) (by decide) (by decide) (by decide) (by decide)
  have i45 := ei 45 (by decide) (by decide) (by decide) (by decide) (by decide) (by decide) (by decide)
  have i50 := ei 50 (by decide) (by decide) (by decide) (by decide) (by decide) (by decide) (by decide)
  have i24 := ei 24 (by decide) (by decide) (by decide) (by decide) (by decide) (by decide) (by decide)
  have i25 := ei 25 (by decide) (by decide) (by decide) (by decide) (by decide) (by decide) (by decide)
  have i26 := ei 26 (by decide) (by decide) (by decide) (by decide) (by decide) (by decide) (by decide)
  have i37 := ei 37 (by decide) (by decide) (by decide) (by decide) (by decide) (by decide) (by decide)
  have i13 := ei 13 (by decide) (by decide) (by decide) (by decide) (by decide) (by decide) (by decide)
  have i22 := ei 22 (by decide) (by decide) (by decide) (by decide) (by decide) (by decide) (by decide)
  obtain ⟨a0, a9, a49⟩ := ea
  obtain ⟨⟨h1, h2, ⟨t1, t2, t3, t4⟩, ⟨k1, k2, k3, k4, k5, k6⟩, h5, h6, h7, h8⟩, ⟨n1, n2, n3, n4⟩, ⟨o1, o2⟩, ⟨c1, c2, c3⟩, l1, ⟨m1, m2, m3, m4⟩, ⟨r1, r2, r3, r4, r5, r6, r7, r8, r9, r10, r11⟩⟩ := h
  refine ⟨⟨by rw [i32]; exact h1, h2, ⟨by rw [i41]; exact t1, t2, fun k hk => by rw [a0]; exact t3 k hk, fun k hk => by rw [eb]; exact t4 k hk⟩, ⟨by rw [i44]; exact k1, by rw [i42]; exact k2, by rw [i43]; exact k3, by rw [i43]; exact k4, fun q => ?_, fun q => ?_⟩, h5, h6, ?_, ?_⟩, ⟨by rw [i50]; exact n1, n2, fun k hk => by rw [eb, a49]; exact n3 k hk, n4⟩, ⟨by rw [i34]; exact o1, o2⟩, ⟨by rw [i24]; exact c1, by rw [i26]; exact c2, by rw [i25]; exact c3⟩, by unfold LTE at *; rw [i37]; exact l1, ⟨by rw [i13]; exact m1, by rw [a9]; exact m2, fun k h1 h2 => by rw [a9]; exact m3 k h1 h2, m4⟩, ⟨r1, r2, r3, by rw [i22]; exact r4, by rw [i22]; exact r5, t21.1, t21.2, w, sj, r10, r11.kd i42 i43 i44 i45 eb⟩⟩
  · rw [i43] at q
    rw [el]
    exact k5 q
  · rw [i43] at q
    rw [i45]
    exact k6 q
  · unfold LC AB BY at *
    rw [i41, i42, i43, i44, i45, el, a0]
    exact h7
  · unfold WDC at *
    rw [eb]
    exact h8
theorem ENV.psh {d : Int32} {S R : CS} {s : RS} {a m : Nat} {x1 x3 : Int32} (h : ENV d S s) (p : PSR S R a m x1 x3) (w : RWI R) (h54 : (S.i 54).toInt + 1 ≤ (s.i 11).toInt + 2) : ENV d R s := by
  have hi := i11_hi h
  have sj := h.sj
  obtain ⟨⟨a1, a2, a3⟩, i1, ⟨i53, i54⟩, -⟩ := p
  have e54 : (R.i 54).toInt = (S.i 54).toInt + 1 := by rw [i54]; exact ad1 sj.1 (by omega)
  have e55 := i1 55 (by decide) (by decide)
  have e38 := i1 38 (by decide) (by decide)
  refine h.gx (fun j _ _ _ q1 q2 _ _ => i1 j q1 q2) ⟨by rw [a1], by rw [a1], by rw [a1]⟩ a2 a3 w ?_ (by rw [i1 21 (by decide) (by decide)]; exact h.t21)
  unfold SJB at *
  rw [e55, e38]
  omega
