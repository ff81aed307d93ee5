/-! both readers: inside the arms, one token on; the frame's state is set -/
theorem AMI.adw {N : Nat} (hN : 1000 ≤ N) {d : Int32} {t : Nat} {f x4 : Int32} {c : Int} {L : List Nat} {S0 S W : CS} {s0 s u : RS} {R : Unit × CS} (h : AMI d t f x4 c L S0 s0 S s) (hW : ENV d W s) (w22 : W.i 22 = S.i 22) (w18 : W.a 18 = S.a 18) (hck : ∀ T : CS, pj T = pj W → T.i 22 = W.i 22 → T.a 18 = W.a 18 → (W.i 44).toInt + 1 ≤ (T.i 44).toInt → CKX S T ∧ (T.i 21).toInt ≤ (S.i 21).toInt + 1) (hz : ¬ W.i 43 = 0) (e : f_X9_advance N W = some R) (g : f_X12_next N s = some u) : AMI d t f x4 c L S0 s0 R.2 u ∧ u.a = s.a ∧ R.2.i 22 = S.i 22 ∧ R.2.a 18 = S.a 18 ∧ (s.i 11).toInt + 1 ≤ (u.i 11).toInt ∧ phI u = phI s + 3 ∧ (u.i 17).toInt = (s.i 17).toInt + 1 ∧ (s.i 12).toInt ≤ (u.i 11).toInt := by
  obtain ⟨h1, h2, h3, h4, h5, h6, ⟨c1, c2, c3, c4⟩, ⟨p1, p2, p3, p4⟩, ⟨r1, r2⟩, v1, v2, ⟨v3, v4, v5, v6, v7⟩⟩ := h
  obtain ⟨w1, w2, w3, w4, w5, w6, w7, w8, w9, w10⟩ := hW.adv hN hz e g
  obtain ⟨-, -, tu, b9⟩ := y_adv hN hW.1 e g
  have ua : u.a = s.a := by rw [tu.2.1]; rfl
  have u24 : u.i 24 = s.i 24 := tu.1 24 (by decide) (by decide) (by decide) (by decide)
  have t17 : (u.i 17).toInt = (s.i 17).toInt + 1 := by rw [w4]; exact t17_up (N := N) h1
  have pu : phI u = phI s + 3 := by
    unfold phI
    rw [w6, t17]
    omega
  have z22 := w8.trans w22
  have z18 := w9.1.trans w18
  obtain ⟨ck, l21⟩ := hck R.2 w3 w8 w9.1 (by rw [hW.1.2.2.2.1.1, w1.1.2.2.2.1.1]; exact w5)
  refine ⟨⟨w1, qj_63 w2 h2, by rw [ua]; exact h3, h4.exp ck, ⟨h5.1.tr (TBZ.of w2), by rw [w6]; exact h5.2.1, fun j hj => by rw [ua]; exact h5.2.2 j hj⟩, h6.tr (FRB.of w2), ⟨?_, ?_, ?_, c4⟩, ⟨p1, p2, by rw [ua]; exact p3, by rw [ua, w6]; exact p4⟩, ⟨by rw [ua]; exact r1, by rw [ua]; exact r2⟩, v1, w10.trans v2, by omega, by omega, by omega, by omega, ?_⟩, ua, z22, z18, w5, pu, t17, b9⟩
  · unfold CSE at *
    rw [z22, z18, ua]
    exact c1
  · rw [ua]
    exact chn.up (by rw [u24]; exact Int.le_refl _) (fun i _ => by rw [ua]) _ _ c2
  · unfold FQL at *
    rw [ua]
    exact c3
  · have r9 := ck.2.2.2.2.2.2.2.2.2.1
    rw [h1.1.2.2.2.1.1, w1.1.2.2.2.1.1] at r9
    omega
theorem AMI.adv {N : Nat} (hN : 1000 ≤ N) {d : Int32} {t : Nat} {f x4 : Int32} {c : Int} {L : List Nat} {S0 S : CS} {s0 s u : RS} {R : Unit × CS} (h : AMI d t f x4 c L S0 s0 S s) (hz : ¬ S.i 43 = 0) (e : f_X9_advance N S = some R) (g : f_X12_next N s = some u) : AMI d t f x4 c L S0 s0 R.2 u ∧ u.a = s.a ∧ R.2.i 22 = S.i 22 ∧ R.2.a 18 = S.a 18 ∧ (s.i 11).toInt + 1 ≤ (u.i 11).toInt ∧ phI u = phI s + 3 ∧ (u.i 17).toInt = (s.i 17).toInt + 1 ∧ (s.i 12).toInt ≤ (u.i 11).toInt := h.adw hN h.1 rfl rfl (fun T k1 k2 k3 k4 => ⟨CKX.of k1 k2 ⟨k3, by omega⟩, by rw [pj_21 k1]; omega⟩) hz e g
/-- a target more, then one token on -/
theorem AMI.nadv {N : Nat} (hN : 1000 ≤ N) {d : Int32} {t : Nat} {f x4 : Int32} {c : Int} {L : List Nat} {S0 S : CS} {s0 s u : RS} {w : Int32 × CS} {R : Unit × CS} (h : AMI d t f x4 c L S0 s0 S s) (hz : ¬ S.i 43 = 0) (ew : f_X0_newTarget N S = some w) (e : f_X9_advance N w.2 = some R) (g : f_X12_next N s = some u) : (AMI d t f x4 c L S0 s0 R.2 u ∧ u.a = s.a ∧ R.2.i 22 = S.i 22 ∧ R.2.a 18 = S.a 18 ∧ (s.i 11).toInt + 1 ≤ (u.i 11).toInt ∧ phI u = phI s + 3 ∧ (u.i 17).toInt = (s.i 17).toInt + 1 ∧ (s.i 12).toInt ≤ (u.i 11).toInt) ∧ 0 ≤ w.1.toInt := by
  obtain ⟨-, n43, n44, n22, n18, n21⟩ := nt_i ew
  have h6 := h.2.2.2.2.2.2.2.2.2.2.2.2.2.2
  have h0 := h.1.t21.1
  obtain ⟨vw, w1, w21⟩ := h.1.nt (by omega) ew
  refine ⟨h.adw hN vw n22 n18 (fun T k1 k2 k3 k4 => ?_) (by rw [n43]; exact hz) e g, by omega⟩
  have t21 : (T.i 21).toInt = (S.i 21).toInt + 1 := by rw [pj_21 k1]; exact w21
  rw [n44] at k4
  exact ⟨CKX.nt ew (CKX.of k1 k2 ⟨k3, by rw [n44]; omega⟩) (by omega), by omega⟩
theorem AMI.s65 {d : Int32} {t : Nat} {f x4 v : Int32} {c : Int} {L : List Nat} {S0 S : CS} {s0 s : RS} (h : AMI d t f x4 c L S0 s0 S s) : AMI d t f x4 c L S0 s0 S (RS.setA s 65 t v) := by
  obtain ⟨h1, h2, h3, h4, h5, h6, ⟨c1, c2, c3, c4⟩, p, r, v1, v2, v3⟩ := h
  have ch : chn (RS.setA s 65 t v) (s.a 22 (s.a 66 t).toNatClampNeg) L := chn.up (s := s) (u := RS.setA s 65 t v) (Int.le_refl _) (fun _ _ => rfl) _ _ c2
  exact ⟨setA_env (Or.inr (by omega)) h1, h2, h3, h4, ⟨h5.1.tr (setA_tb0 (Or.inr (by omega))), h5.2⟩, h6.tr (setA_frb (Or.inr ⟨by omega, by omega, Nat.le_refl _⟩)), ⟨c1, ch, c3, c4⟩, p, r, v1, v2, v3⟩
theorem s65_at {s : RS} {t : Nat} {v : Int32} : (RS.setA s 65 t v).a 65 t = v := by
  show upd (s.a 65) t v t = v
  exact if_pos rfl
/-! the code of the arms so far -/
def AMV (Q : Int32 → Int32 → Prop) (f x4 : Int32) (L : List Nat) (S : CS) (s : RS) : Prop := (∀ k ∈ L, s.a 28 k = 0 → ∀ i : Nat, f.toInt ≤ (i : Int) → (i : Int) < (S.i 22).toInt → S.a 18 i = s.a 25 k → Q (S.a 19 i) (s.a 26 k)) ∧ ∀ k ∈ L, ¬ s.a 28 k = 0 → Q x4 (s.a 26 k)
theorem AMV.mv {Q Q' : Int32 → Int32 → Prop} {f x4 : Int32} {L : List Nat} {S R : CS} {s u : RS} (h : AMV Q f x4 L S s) (q : ∀ T v : Int32, Q T v → Q' T v) (e22 : R.i 22 = S.i 22) (e18 : ∀ i : Nat, (i : Int) < (S.i 22).toInt → R.a 18 i = S.a 18 i) (e19 : ∀ i : Nat, (i : Int) < (S.i 22).toInt → R.a 19 i = S.a 19 i) (e : ∀ k ∈ L, u.a 25 k = s.a 25 k ∧ u.a 26 k = s.a 26 k ∧ u.a 28 k = s.a 28 k) : AMV Q' f x4 L R u := by
  obtain ⟨h1, h2⟩ := h
  refine ⟨fun k hk z i i1 i2 i3 => ?_, fun k hk z => ?_⟩
  · obtain ⟨e1, e2, e3⟩ := e k hk
    rw [e22] at i2
    rw [e18 i i2, e1] at i3
    rw [e3] at z
    rw [e19 i i2, e2]
    exact q _ _ (h1 k hk z i i1 i2 i3)
  · obtain ⟨e1, e2, e3⟩ := e k hk
    rw [e3] at z
    rw [e2]
    exact q _ _ (h2 k hk z)
/-- as FGR, but the links of the entries L may still change -/
def FGX (L : List Nat) (s u U : RS) : Prop := (0 ≤ (s.i 20).toInt ∧ (u.i 20).toInt ≤ (U.i 20).toInt ∧ (U.i 20).toInt ≤ 3000) ∧ (∀ j : Nat, (s.i 20).toInt ≤ (j : Int) → (j : Int) < (u.i 20).toInt → U.a 21 j = u.a 21 j ∧ U.a 22 j = u.a 22 j ∧ U.a 23 j = u.a 23 j) ∧ (∀ j : Nat, (s.i 24).toInt ≤ (j : Int) → (j : Int) < (u.i 24).toInt → U.a 25 j = u.a 25 j ∧ U.a 26 j = u.a 26 j ∧ (j ∉ L → U.a 27 j = u.a 27 j) ∧ U.a 28 j = u.a 28 j) ∧ (∀ j : Nat, (s.i 29).toInt ≤ (j : Int) → (j : Int) < (u.i 29).toInt → U.a 30 j = u.a 30 j ∧ U.a 31 j = u.a 31 j ∧ U.a 32 j = u.a 32 j) ∧ ∀ j : Nat, (s.i 33).toInt ≤ (j : Int) → (j : Int) < (u.i 33).toInt → U.a 34 j = u.a 34 j ∧ U.a 35 j = u.a 35 j ∧ U.a 36 j = u.a 36 j ∧ U.a 37 j = u.a 37 j
theorem FGR.x {s u U : RS} (h : FGR s u U) (L : List Nat) : FGX L s u U := ⟨h.1, h.2.1, fun j j1 j2 => ⟨(h.2.2.1 j j1 j2).1, (h.2.2.1 j j1 j2).2.1, fun _ => (h.2.2.1 j j1 j2).2.2.1, (h.2.2.1 j j1 j2).2.2.2⟩, h.2.2.2⟩
theorem FGX.pre {L L' : List Nat} {b s u U : RS} (h : FGX L' b u U) (l20 : (s.i 20).toInt ≤ (u.i 20).toInt) (c : ∀ j : Nat, (b.i 20).toInt ≤ (j : Int) → (j : Int) < (s.i 20).toInt → u.a 21 j = s.a 21 j ∧ u.a 22 j = s.a 22 j ∧ u.a 23 j = s.a 23 j) (l24 : (s.i 24).toInt ≤ (u.i 24).toInt) (e : ∀ j : Nat, (b.i 24).toInt ≤ (j : Int) → (j : Int) < (s.i 24).toInt → u.a 25 j = s.a 25 j ∧ u.a 26 j = s.a 26 j ∧ (j ∉ L → u.a 27 j = s.a 27 j ∧ j ∉ L') ∧ u.a 28 j = s.a 28 j) (l29 : (s.i 29).toInt ≤ (u.i 29).toInt) (t : ∀ j : Nat, (j : Int) < (s.i 29).toInt → u.a 30 j = s.a 30 j ∧ u.a 31 j = s.a 31 j ∧ u.a 32 j = s.a 32 j) (l33 : (s.i 33).toInt ≤ (u.i 33).toInt) (k : ∀ j : Nat, (j : Int) < (s.i 33).toInt → u.a 34 j = s.a 34 j ∧ u.a 35 j = s.a 35 j ∧ u.a 36 j = s.a 36 j ∧ u.a 37 j = s.a 37 j) : FGX L b s U := by
  obtain ⟨⟨h1, h2, h3⟩, h4, h5, h6, h7⟩ := h
  refine ⟨⟨h1, by omega, h3⟩, fun j j1 j2 => ?_, fun j j1 j2 => ?_, fun j j1 j2 => ?_, fun j j1 j2 => ?_⟩
  · have x := h4 j j1 (by omega)
    have y := c j j1 j2
    exact ⟨x.1.trans y.1, x.2.1.trans y.2.1, x.2.2.trans y.2.2⟩
  · have x := h5 j j1 (by omega)
    have y := e j j1 j2
    exact ⟨x.1.trans y.1, x.2.1.trans y.2.1, fun z => (x.2.2.1 (y.2.2.1 z).2).trans (y.2.2.1 z).1, x.2.2.2.trans y.2.2.2⟩
  · have x := h6 j j1 (by omega)
    have y := t j j2
    exact ⟨x.1.trans y.1, x.2.1.trans y.2.1, x.2.2.trans y.2.2⟩
  · have x := h7 j j1 (by omega)
    have y := k j j2
    exact ⟨x.1.trans y.1, x.2.1.trans y.2.1, x.2.2.1.trans y.2.2.1, x.2.2.2.trans y.2.2.2⟩
theorem FGX.cd {L : List Nat} {b s u U : RS} {c : Int} (h : FGX L b u U) (y : CD2 c s u) (lc : (s.i 20).toInt ≤ c) : FGX L b s U := h.pre y.1.1 (fun j _ j2 => y.2.1 j (by omega)) y.1.2.1 (fun j _ j2 => ⟨(y.2.2.1 j j2).1, (y.2.2.1 j j2).2.1, fun z => ⟨(y.2.2.1 j j2).2.2.1, z⟩, (y.2.2.1 j j2).2.2.2⟩) y.1.2.2.1 y.2.2.2.1 y.1.2.2.2.1 y.2.2.2.2
/-- a piece behind the entries L -/
theorem FGX.mid {L : List Nat} {b s u U : RS} {c : Int} (h : FGX L b u U) (x : CD2 c b s) (hL : ∀ j ∈ L, (j : Int) < (s.i 24).toInt) : FGR s u U := by
  obtain ⟨⟨h1, h2, h3⟩, h4, h5, h6, h7⟩ := h
  obtain ⟨⟨x1, x2, x3, x4, -⟩, -⟩ := x
  refine ⟨⟨by omega, h2, h3⟩, fun j j1 j2 => h4 j (by omega) j2, fun j j1 j2 => ?_, fun j j1 j2 => h6 j (by omega) j2, fun j j1 j2 => h7 j (by omega) j2⟩
  have y := h5 j (by omega) j2
  exact ⟨y.1, y.2.1, y.2.2.1 (fun z => by have := hL j z; omega), y.2.2.2⟩
/-- the arms that were read: all their entries lead to good places, or to Z -/
def AMW (δ : Int) (Z : Int32 → Int32 → Prop) (x2 : Int32) (q0 t : Nat) (U : RS) (Sb : CS) (sb : RS) (f x4 : Int32) (L : List Nat) (S : CS) (s : RS) : Prop := ((s.a 66 t).toInt = (q0 : Int) ∧ (q0 : Int) < (sb.i 20).toInt) ∧ (0 ≤ δ ∧ f.toInt ≤ (S.i 22).toInt) ∧ (x4.toInt < 0 → ∀ k ∈ L, s.a 28 k = 0) ∧ (CRB Sb → CD1 (-(2 * ((S.i 22).toInt - f.toInt) + δ)) 0 Sb S ∧ CT7 0 (Sb.i 21).toInt Sb S ∧ CD2 (q0 : Int) sb s ∧ ∃ Ψ : GPS, SAT Ψ Sb sb S s ∧ ∀ (FC : Nat → Prop) (SF : CS) (nm : Nat → Nat → Prop) (X : Als) (c : List Ent) (h w W we : Nat), Ψ FC nm → FGC Sb S SF → FGX L sb s U → NMG nm ((5, h, q0, 0, 0, 0, 0) :: c) Sb sb → HC0 nm h c → ((2 * h + msr c : Nat) : Int) + 2 ≤ (sb.i 11).toInt → TYC SF U (GU FC SF U nm X) W c → W + 1 ≤ w → we ≤ w → EXG FC SF U nm X x2 q0 h we c → AMV (fun T v => JX SF (GU FC SF U nm X) T v h (w + (pcC S - pcC Sb)) 0 0 ((5, h, q0, 0, 0, 0, 0) :: c) ∨ Z T v) f x4 L S s)
theorem AMW.crb {δ : Int} {Z : Int32 → Int32 → Prop} {x2 : Int32} {q0 t : Nat} {U : RS} {Sb : CS} {sb : RS} {f x4 : Int32} {L : List Nat} {S : CS} {s : RS} (h : AMW δ Z x2 q0 t U Sb sb f x4 L S s) (cr : CRB Sb) : CRB S := cr.of (h.2.2.2 cr).1 (by have := h.2.1; omega) (Int.le_refl _)
/-- tokens on, targets more -/
theorem AMW.tk {δ δ' : Int} {Z Z' : Int32 → Int32 → Prop} {x2 : Int32} {q0 t : Nat} {U : RS} {Sb : CS} {sb : RS} {f x4 : Int32} {L : List Nat} {S R : CS} {s u : RS} {a b : Int} (h : AMW δ Z x2 q0 t U Sb sb f x4 L S s) (hz : ∀ T v : Int32, Z T v → Z' T v) (x : CRB S → CD1 a b S R ∧ CT7 0 (S.i 21).toInt S R) (ha : 0 ≤ δ' ∧ δ' ≤ δ - a) (hb : b ≤ 0) (e20 : R.i 20 = S.i 20) (e22 : R.i 22 = S.i 22) (e18 : R.a 18 = S.a 18) (e19 : R.a 19 = S.a 19) (q : qe u = qe s) (e66 : u.a 66 t = s.a 66 t) : AMW δ' Z' x2 q0 t U Sb sb f x4 L R u := by
  obtain ⟨h0, h9, h1, h2⟩ := h
  have y : ∀ c : Int, CD2 c s u := fun c => CD2.qe q
  obtain ⟨-, -, -, -, q25, q26, -, q28, -⟩ := qe_eq q
  refine ⟨by rw [e66]; exact h0, ⟨ha.1, by rw [e22]; exact h9.2⟩, by rw [q28]; exact h1, fun cr => ?_⟩
  obtain ⟨c1, c2, c3, Ψ, sat, h2⟩ := h2 cr
  have crS : CRB S := cr.of c1 (by omega) (Int.le_refl _)
  obtain ⟨x1, x2'⟩ := x crS
  have pc : pcC R = pcC S := by unfold pcC; rw [e20]
  refine ⟨(c1.tr x1).wk (by rw [e22]; omega) (by omega), c2.tr (x2'.wk (Int.le_refl _) c1.2.2.1), c3.tr (y _), Ψ, sat.wd (MNO.of (CD1.rf Sb) (CD2.rf 0 sb)) (MNO.of x1 (y 0)), fun FC SF nm X c h w W we ps fc fr ng hc hh ty hW hE ex => ?_⟩
  have z := h2 FC SF nm X c h w W we ps (fc.sub (CD1.rf Sb) x1 (x2'.wk cr.2.1 (Int.le_refl _))) (fr.cd (y (s.i 20).toInt) (Int.le_refl _)) ng hc hh ty hW hE ex
  rw [pc]
  exact z.mv (fun T v k => k.imp id (hz T v)) e22 (fun i _ => by rw [e18]) (fun i _ => by rw [e19]) (fun k _ => ⟨by rw [q25], by rw [q26], by rw [q28]⟩)
/-- an entry more -/
theorem AMW.ent {δ δ' : Int} {Z : Int32 → Int32 → Prop} {x2 : Int32} {q0 t : Nat} {U : RS} {Sb : CS} {sb : RS} {f x4 x5 : Int32} {L : List Nat} {S R : CS} {s u : RS} {a b : Int} {e : Nat} (h : AMW δ Z x2 q0 t U Sb sb f x4 L S s) (x : CRB S → CD1 a b S R ∧ CT7 0 (S.i 21).toInt S R) (ha : 0 ≤ δ' ∧ 2 * (R.i 22).toInt + δ' ≤ 2 * (S.i 22).toInt + δ - a ∧ (S.i 22).toInt ≤ (R.i 22).toInt) (hb : b ≤ 0) (e20 : R.i 20 = S.i 20)
    (h5 : x5.toInt < 0 → x4.toInt < 0 ∧ u.a 28 e = 0) (he : (s.i 24).toInt = (e : Int)) (e24 : (u.i 24).toInt = (s.i 24).toInt + 1) (eL : ∀ j ∈ L, (sb.i 24).toInt ≤ (j : Int) ∧ j < e) (f25 : ∀ i : Nat, i < e → u.a 25 i = s.a 25 i ∧ u.a 26 i = s.a 26 i ∧ u.a 28 i = s.a 28 i) (f27 : ∀ i : Nat, i < e → i ∉ L → u.a 27 i = s.a 27 i) (f22 : ∀ i : Nat, ¬ i = (s.a 66 t).toNatClampNeg → u.a 22 i = s.a 22 i) (fa : ∀ k : Nat, k ≠ 22 → k ≠ 25 → k ≠ 26 → k ≠ 27 → k ≠ 28 → k ≠ 67 → k ≠ 65 → k ≠ 68 → u.a k = s.a k) (fi : ∀ k : Nat, k ≠ 10 → k ≠ 11 → k ≠ 12 → k ≠ 14 → k ≠ 17 → k ≠ 24 → u.i k = s.i k)
    (am : ∀ Q : Int32 → Int32 → Prop, (∀ T v : Int32, Z T v → Q T v) → AMV Q f x4 L S s → AMV Q f x5 (L ++ [e]) R u) : AMW δ' Z x2 q0 t U Sb sb f x5 (L ++ [e]) R u := by
  obtain ⟨⟨h0, h0'⟩, h9, h1, h2⟩ := h
  have ck := clampI (k := s.a 66 t) (by omega)
  have i20 := fi 20 (by decide) (by decide) (by decide) (by decide) (by decide) (by decide)
  have i29 := fi 29 (by decide) (by decide) (by decide) (by decide) (by decide) (by decide)
  have i33 := fi 33 (by decide) (by decide) (by decide) (by decide) (by decide) (by decide)
  have i42 := fi 42 (by decide) (by decide) (by decide) (by decide) (by decide) (by decide)
  have i52 := fi 52 (by decide) (by decide) (by decide) (by decide) (by decide) (by decide)
  have g : ∀ k : Nat, (k = 21 ∨ k = 23 ∨ (30 ≤ k ∧ k ≤ 37) ∨ k = 66) → u.a k = s.a k := fun k z => fa k (by omega) (by omega) (by omega) (by omega) (by omega) (by omega) (by omega) (by omega)
  refine ⟨⟨by rw [g 66 (by omega)]; exact h0, h0'⟩, ⟨ha.1, by omega⟩, fun z k hk => ?_, fun cr => ?_⟩
  · rcases List.mem_append.mp hk with y | y
    · rw [(f25 k (eL k y).2).2.2]
      exact h1 (h5 z).1 k y
    · rcases List.mem_cons.mp y with rfl | y
      · exact (h5 z).2
      · exact absurd y List.not_mem_nil
  obtain ⟨c1, c2, c3, Ψ, sat, h2⟩ := h2 cr
  have crS : CRB S := cr.of c1 (by omega) (Int.le_refl _)
  obtain ⟨x1, x2'⟩ := x crS
  have pc : pcC R = pcC S := by unfold pcC; rw [e20]
  have l24 := c3.1.2.1
  have sb20 := c3.1.1
  have cd : CD2 (q0 : Int) sb u := by
    obtain ⟨⟨d1, d2, d3, d4, d5, d6⟩, d7, d8, d9, d10⟩ := c3
    refine ⟨⟨by rw [i20]; exact d1, by omega, by rw [i29]; exact d3, by rw [i33]; exact d4, d5.tr (SLC.eq i42 (by rw [i20]; exact Int.le_refl _)), by rw [i52]; exact d6⟩, fun j hj => ?_, fun j hj => ?_, fun j hj => ?_, fun j hj => ?_⟩
    · rw [g 21 (by omega), f22 j (by omega), g 23 (by omega)]
      exact d7 j hj
    · obtain ⟨y1, y2, y3⟩ := f25 j (by omega)
      rw [y1, y2, f27 j (by omega) (fun z => by have := (eL j z).1; omega), y3]
      exact d8 j hj
    · rw [g 30 (by omega), g 31 (by omega), g 32 (by omega)]
      exact d9 j hj
    · rw [g 34 (by omega), g 35 (by omega), g 36 (by omega), g 37 (by omega)]
      exact d10 j hj
  refine ⟨(c1.tr x1).wk (by omega) (by omega), c2.tr (x2'.wk (Int.le_refl _) c1.2.2.1), cd, Ψ, sat.wd (MNO.of (CD1.rf Sb) (CD2.rf 0 sb)) ⟨x1.2.2.2.2.2.1.1, SLC.eq i42 (by rw [i20]; exact Int.le_refl _), by rw [i29]; exact Int.le_refl _⟩, fun FC SF nm X c h w W we ps fc fr ng hc hh ty hW hE ex => ?_⟩
  have z := h2 FC SF nm X c h w W we ps (fc.sub (CD1.rf Sb) x1 (x2'.wk cr.2.1 (Int.le_refl _))) (fr.pre (by rw [i20]; exact Int.le_refl _) (fun j j1 j2 => ⟨by rw [g 21 (by omega)], f22 j (by omega), by rw [g 23 (by omega)]⟩) (by omega) (fun j j1 j2 => ?_) (by rw [i29]; exact Int.le_refl _) (fun j _ => ⟨by rw [g 30 (by omega)], by rw [g 31 (by omega)], by rw [g 32 (by omega)]⟩) (by rw [i33]; exact Int.le_refl _) (fun j _ => ⟨by rw [g 34 (by omega)], by rw [g 35 (by omega)], by rw [g 36 (by omega)], by rw [g 37 (by omega)]⟩)) ng hc hh ty hW hE ex
  · rw [pc]
    exact am _ (fun T v k => Or.inr k) z
  · obtain ⟨y1, y2, y3⟩ := f25 j (by omega)
    refine ⟨y1, y2, fun k => ⟨f27 j (by omega) k, fun y => ?_⟩, y3⟩
    rcases List.mem_append.mp y with y | y
    · exact k y
    · rcases List.mem_cons.mp y with y | y
      · omega
      · exact absurd y List.not_mem_nil
theorem chn.un {s : RS} : ∀ (L M : List Nat) (k : Int32), chn s k L → chn s k M → L = M
  | [], [], _, _, _ => rfl
  | [], j :: M, k, h, g => by
    have h' : k.toInt < 0 := h
    have := g.1
    omega
  | i :: L, [], k, h, g => by
    have g' : k.toInt < 0 := g
    have := h.1
    omega
  | i :: L, j :: M, k, h, g => by
    have e : i = j := by
      have := h.1
      have := g.1
      omega
    subst e
    rw [chn.un L M _ h.2.2.2 g.2.2.2]
/-- a number more -/
theorem AMW.num {x2 : Int32} {q0 t : Nat} {U : RS} {Sb : CS} {sb : RS} {d f x4 tgt v0 : Int32} {c : Int} {L : List Nat} {S R : CS} {s u : RS} (h : AMW 1 (fun T v => T = tgt ∧ v = v0) x2 q0 t U Sb sb f x4 L S s) (hA : AMI d t f x4 c L Sb sb S s) (g : CNX9 d t f L S s R u) (k : CNC tgt S s R u) (h20 : s.i 20 = v0) (h44 : (S.i 44).toInt + 1 ≤ (R.i 44).toInt) : ∃ L' : List Nat, AMW 0 (fun T v => T = tgt ∧ v = v0) x2 q0 t U Sb sb f x4 L' R u ∧ chn u (u.a 22 (u.a 66 t).toNatClampNeg) L' ∧ u.i 20 = v0 := by
  have jl := chn.lt L _ hA.2.2.2.2.2.2.1.2.1
  have jb := hA.2.2.2.2.2.2.1.2.2.2
  have cs0 := hA.2.2.2.2.2.2.1.1
  have qpj := g.qpj
  obtain ⟨S1, s1, v, h1, ⟨ea, eb, ei⟩, ⟨ep, e22, e18⟩, ⟨b17, b11⟩, ⟨e, q1, q2, q3, q4, q5, q6, q7, q8, q9, q10, f1, f17, f20, f19, f63, f24, fa, f67, f25, f27, f22, fi, fb⟩, ln⟩ := g
  obtain ⟨⟨k20, k23, k38, k15, k16, k17⟩, k19, k19', e', ke, k26, k26'⟩ := k
  have e24 := ei 24 (by decide) (by decide) (by decide) (by decide) (by decide)
  have ee : e' = e := by
    rw [e24] at q1
    omega
  subst ee
  rw [e22] at q6 q7 q8 q9
  rw [e18] at q7 q9
  have fr : ¬ ∃ i : Nat, f.toInt ≤ (i : Int) ∧ (i : Int) < (S.i 22).toInt ∧ S.a 18 i = v := q9
  have r4 := hA.1.2.2.2.2.2.2.2.2.2.1
  have ff := cs0.2.1
  have new : u.a 28 e' = 0 ∧ u.a 25 e' = v := by
    obtain ⟨j, j1, j2, j3⟩ := (q2.2.2 v).mp ⟨(S.i 22).toInt.toNat, by omega, by omega, q8⟩
    rcases List.mem_append.mp j1 with z | z
    · exfalso
      have jj := jl j z
      obtain ⟨y1, y2⟩ := f25 j (by omega)
      rw [ea] at y1 y2
      exact fr ((cs0.2.2 v).mpr ⟨j, z, by rw [← y2]; exact j2, by rw [← y1]; exact j3⟩)
    · rcases List.mem_cons.mp z with rfl | z
      · exact ⟨j2, j3⟩
      · exact absurd z List.not_mem_nil
  obtain ⟨-, -, -, -, -, -, -, -, -, -, -, -, -, i50, -, -, -, -, -, -, a48, a49, -, -, -, -, -, i21, -⟩ := pj_eq qpj
  refine ⟨L ++ [e'], h.ent (a := -1) (b := -1) (fun _ => ⟨⟨⟨by rw [k20]; exact Int.le_refl _, by rw [k20]; omega, by rw [i21]; omega⟩, fun j _ => ⟨by rw [k15], by rw [k16]⟩, by rw [i21]; exact Int.le_refl _, by rw [i50]; exact Int.le_refl _, fun j _ => ⟨by rw [a48], by rw [a49]⟩, ⟨by rw [k23]; exact Int.le_refl _, by rw [k23]; omega⟩, k38, by omega, k19⟩, fun j _ _ => by rw [k17]⟩) ⟨by omega, by omega, by omega⟩ (by omega) k20 (fun z => ⟨z, new.1⟩) ke (by rw [f24, e24]) (fun j hj => ⟨jb j hj, by have := jl j hj; omega⟩) (fun i hi => ?_) (fun i hi hn => ?_) (fun i hi => ?_) (fun m m1 m2 m3 m4 m5 m6 _ _ => ?_) (fun m m1 m2 m3 m4 m5 m6 => ?_) (fun Q hQ am => ?_), q3, ?_⟩
  · have y := f25 i hi
    rw [ea] at y
    exact ⟨y.1, k26' i hi, y.2⟩
  · rw [f27 i hi hn, ea]
  · rw [f22 i (by rw [ea]; exact hi), ea]
  · rw [fa m m1 m2 m3 m4 m5 m6, ea]
  · rw [fi m m1 m2 m3 m4 m5 m6, ei m m1 m2 m3 m4 m5]
  · obtain ⟨am1, am2⟩ := am
    refine ⟨fun k hk z i i1 i2 i3 => ?_, fun k hk z => ?_⟩
    · rcases List.mem_append.mp hk with y | y
      · have jj := jl k y
        obtain ⟨y1, y2⟩ := f25 k (by omega)
        rw [ea] at y1 y2
        by_cases ci : (i : Int) < (S.i 22).toInt
        · rw [k19 i ci, k26' k (by omega)]
          exact am1 k y (by rw [← y2]; exact z) i i1 ci (by rw [← q7 i ci, ← y1]; exact i3)
        · exfalso
          have : i = (S.i 22).toInt.toNat := by omega
          rw [this, q8] at i3
          exact fr ((cs0.2.2 v).mpr ⟨k, y, by rw [← y2]; exact z, by rw [← y1]; exact i3.symm⟩)
      · rcases List.mem_cons.mp y with rfl | y
        · by_cases ci : (i : Int) < (S.i 22).toInt
          · exfalso
            rw [q7 i ci, new.2] at i3
            exact fr ⟨i, i1, ci, i3⟩
          · have : i = (S.i 22).toInt.toNat := by omega
            rw [this, k19', k26]
            exact hQ _ _ ⟨rfl, h20⟩
        · exact absurd y List.not_mem_nil
    · rcases List.mem_append.mp hk with y | y
      · have jj := jl k y
        obtain ⟨y1, y2⟩ := f25 k (by omega)
        rw [ea] at y2
        rw [k26' k (by omega)]
        exact am2 k y (by rw [← y2]; exact z)
      · rcases List.mem_cons.mp y with rfl | y
        · exact absurd new.1 z
        · exact absurd y List.not_mem_nil
  · rw [f20, ei 20 (by decide) (by decide) (by decide) (by decide) (by decide)]
    exact h20
/-- the entry of default -/
theorem AMW.dft {N : Nat} {δ : Int} {Z : Int32 → Int32 → Prop} {x2 : Int32} {q0 t : Nat} {U : RS} {Sb : CS} {sb : RS} {d f x4 x5 x : Int32} {c : Int} {L : List Nat} {S : CS} {s y : RS} (h : AMW δ Z x2 q0 t U Sb sb f x4 L S s) (hA : AMI d t f x4 c L Sb sb S s) (hx : x.toNatClampNeg = t) (h4 : x4.toInt < 0) (h5 : 0 ≤ x5.toInt) (hZ : Z x5 (s.i 20)) (g : f_X12_entry N (RS.setA s 68 t 1) x 0 1 = some y) : ∃ L' : List Nat, AMW δ Z x2 q0 t U Sb sb f x5 L' S y ∧ chn y (y.a 22 (y.a 66 t).toNatClampNeg) L' ∧ y.i 20 = s.i 20 := by
  have jl := chn.lt L _ hA.2.2.2.2.2.2.1.2.1
  have jb := hA.2.2.2.2.2.2.1.2.2.2
  have c2 := hA.2.2.2.2.2.2.1.2.1
  have c3 := hA.2.2.2.2.2.2.1.2.2.1
  have en := y_entry hx g
  have b1 : vp_nar .boolean (1 : Int32) = 1 := by decide
  rw [b1] at en
  have hh : (RS.setA s 68 t 1).i = s.i ∧ ∀ k : Nat, k ≠ 68 → (RS.setA s 68 t 1).a k = s.a k := ⟨rfl, fun k h => setA_nk h⟩
  have ch : chn (RS.setA s 68 t 1) ((RS.setA s 68 t 1).a 22 ((RS.setA s 68 t 1).a 66 t).toNatClampNeg) L := chn.up (s := s) (u := RS.setA s 68 t 1) (Int.le_refl _) (fun _ _ => rfl) _ _ c2
  obtain ⟨s', hs'⟩ : ∃ z, z = RS.setA s 68 t 1 := ⟨_, rfl⟩
  rw [← hs'] at en ch hh
  have c3' : FQL s' t L := by
    unfold FQL at *
    rw [hh.2 67 (by decide)]
    exact c3
  clear hs' g
  obtain ⟨hi, ha⟩ := hh
  obtain ⟨e, k1, k2, k3, k4, k5, k6, k7, k8⟩ := en.chain ch c3'
  obtain ⟨n1, n2, n3, n4, n5, n6, n7, n8, n9, n10', n26⟩ := en
  rw [hi] at k1
  have ek : (s'.i 24).toNatClampNeg = e := by
    have := clampI n2.1
    rw [hi] at this ⊢
    omega
  have e24 : (y.i 24).toInt = (s.i 24).toInt + 1 := by
    rw [n1, ad1 n2.1 (by omega), hi]
  have x1 := h.2.2.1 h4
  have hd := h.2.1
  refine ⟨L ++ [e], h.ent (a := 0) (b := 0) (fun _ => ⟨CD1.rf S, CT7.rf _ _ S⟩) ⟨hd.1, by omega, by omega⟩ (by omega) rfl (fun z => by omega) k1 e24 (fun j hj => ⟨jb j hj, by have := jl j hj; omega⟩) (fun i hi' => ?_) (fun i hi' hn => ?_) (fun i hi' => ?_) (fun m m1 m2 m3 m4 m5 m6 _ m8 => ?_) (fun m m1 m2 m3 m4 m5 m6 => ?_) (fun Q hQ am => ?_), k2, ?_⟩
  · have y1 := k6 i hi'
    rw [ha 25 (by decide), ha 28 (by decide)] at y1
    refine ⟨y1.1, ?_, y1.2⟩
    rw [n26, ek, ha 26 (by decide)]
    exact if_neg (by omega)
  · rw [k7 i hi' hn, ha 27 (by decide)]
  · rw [k8 i (by rw [ha 66 (by decide)]; exact hi'), ha 22 (by decide)]
  · rw [n7 m m1 m2 m3 m4 m5 m6, ha m m8]
  · rw [n8 m m6, hi]
  · obtain ⟨am1, am2⟩ := am
    have old : ∀ k ∈ L, y.a 25 k = s.a 25 k ∧ y.a 26 k = s.a 26 k ∧ y.a 28 k = s.a 28 k := fun k hk => by
      have jj := jl k hk
      have y1 := k6 k (by omega)
      rw [ha 25 (by decide), ha 28 (by decide)] at y1
      refine ⟨y1.1, ?_, y1.2⟩
      rw [n26, ek, ha 26 (by decide)]
      exact if_neg (by omega)
    refine ⟨fun k hk z i i1 i2 i3 => ?_, fun k hk z => ?_⟩
    · rcases List.mem_append.mp hk with w | w
      · obtain ⟨o1, o2, o3⟩ := old k w
        rw [o2]
        exact am1 k w (by rw [← o3]; exact z) i i1 i2 (by rw [← o1]; exact i3)
      · rcases List.mem_cons.mp w with rfl | w
        · rw [k5] at z
          exact absurd z (by decide)
        · exact absurd w List.not_mem_nil
    · rcases List.mem_append.mp hk with w | w
      · obtain ⟨o1, o2, o3⟩ := old k w
        rw [o3] at z
        exact absurd (x1 k w) z
      · rcases List.mem_cons.mp w with rfl | w
        · have : y.a 26 k = s.i 20 := by
            rw [n26, ek]
            exact (if_pos rfl).trans (by rw [hi])
          rw [this]
          exact hQ _ _ hZ
        · exact absurd w List.not_mem_nil
  · rw [n8 20 (by decide), hi]
/-- the target of an arm that is not aimed yet -/
def TGU (tgt : Int32) (Sb S : CS) : Prop := CRB Sb → ((Sb.i 21).toInt ≤ tgt.toInt ∧ tgt.toInt + 1 = (S.i 21).toInt) ∧ (S.a 17 tgt.toNatClampNeg).toInt < 0
theorem TGU.mv {tgt : Int32} {Sb S R : CS} (h : TGU tgt Sb S) (h21 : R.i 21 = S.i 21) (h17 : R.a 17 = S.a 17) : TGU tgt Sb R := fun cr => by
  rw [h21, h17]
  exact h cr
/-- the arm itself -/
theorem AMW.arm {δ : Int} {x2 : Int32} {q0 t : Nat} {U : RS} {Sb : CS} {sb : RS} {d f x4 tgt v0 : Int32} {c : Int} {L : List Nat} {S R : CS} {s u : RS} (h : AMW δ (fun T v => T = tgt ∧ v = v0) x2 q0 t U Sb sb f x4 L S s) (hA : AMI d t f x4 c L Sb sb S s) (h20 : s.i 20 = v0) (g : AXO d t S s R u) (k : ACD x2 tgt t U S s R u) (ht : TGU tgt Sb S) (h47 : G47 sb) : AMW δ (fun _ _ => False) x2 q0 t U Sb sb f x4 L R u := by
  have jl := chn.lt L _ hA.2.2.2.2.2.2.1.2.1
  obtain ⟨a1, a2, a3, a4, a5, a6, -, -, -, a7, a8, ⟨a9, -⟩⟩ := hA
  obtain ⟨w1, w2, ⟨w31, w32, w33, w34, w35⟩, w4, w5, w6, w7, w8, w9, w10⟩ := g
  have m24 := w5.1.2.2.2.2.2.2.2.2.2.2.2
  obtain ⟨h0, h9, h1, h2⟩ := h
  have w22 : R.i 22 = S.i 22 := w6.1.1
  refine ⟨by rw [w33]; exact h0, ⟨h9.1, by rw [w22]; exact h9.2⟩, fun z y hy => by rw [(m24 y (jl y hy)).2.2]; exact h1 z y hy, fun cr => ?_⟩
  obtain ⟨c1, c2, c3, Ψ, sat, h2⟩ := h2 cr
  obtain ⟨⟨t1, t2⟩, t3⟩ := ht cr
  have crS : CRB S := cr.of c1 (by omega) (Int.le_refl _)
  have t0 : 0 ≤ tgt.toInt := by have := cr.2.1; omega
  have ck := clampI t0
  obtain ⟨k1, k2, k3, k4, Ψ2, sat2, k5⟩ := k q0 h0.1 crS (h47.mv a5.1 c3.1.2.2.2.2.2) t0 (by omega)
  have l20 := c3.1.1
  have n50 : Sb.i 50 = sb.i 38 := by
    have e1 : S.i 50 = Sb.i 50 := a4.1.1.2.2.2.1
    have e2 : s.i 38 = sb.i 38 := a5.1.1.2.2.2.1
    rw [← e1, ← e2]
    exact a1.2.1.1
  refine ⟨(c1.tr k1).wk (by rw [w22]; omega) (by omega), fun j j1 j2 => (k2 j (by have := c1.2.2.1; omega) (by omega)).trans (c2 j j1 j2), c3.tr (k4.wk (by omega)), _, sat.an sat2 (MNO.of c1 c3) (MNO.of k1 k4), ?_⟩
  intro FC SF nm X c h w W we ps fc fr ng hc hh ty hW hE ex
  have pb : ((pcC Sb : Nat) : Int) = (Sb.i 20).toInt := Int.toNat_of_nonneg cr.1.1
  have pS : ((pcC S : Nat) : Int) = (S.i 20).toInt := Int.toNat_of_nonneg crS.1.1
  have pR : ((pcC R : Nat) : Int) = (R.i 20).toInt := Int.toNat_of_nonneg (by have := k1.1.1; have := crS.1.1; omega)
  have l1 := c1.1.1
  have l2 := k1.1.1
  have fcS : FGC Sb S SF := by
    obtain ⟨⟨f1, f2⟩, f3, f4⟩ := fc
    refine ⟨⟨f1, by omega⟩, fun j j1 j2 => ?_, fun j j1 j2 j3 => ?_⟩
    · have y1 := f3 j j1 (by omega)
      have y2 := k1.2.1 j j2
      exact ⟨y1.1.trans y2.1, y1.2.trans y2.2⟩
    · have ne : ¬ (j : Int) = tgt.toInt := fun z => by
        have : j = tgt.toNatClampNeg := by omega
        rw [this] at j3
        omega
      have y2 := k2 j j2 ne
      exact (f4 j j1 (by have := k1.2.2.1; omega) (j3.elim (fun q => Or.inl (by rw [y2]; exact q)) (fun q => Or.inr (by have := k1.2.2.1; omega)))).trans y2
  have z1 := h2 FC SF nm X c h (w + (pcC R - pcC S)) W we ps.1 fcS (fr.cd k4 (Int.le_refl _)) ng hc hh ty (by omega) (by omega) ex
  have z2 := k5 FC SF nm X c h w W we 0 ps.2 (fc.sub c1 (CD1.rf R) (CT7.rf _ _ R)) (fr.mid c3 jl) (ng.mv n50 c1 c3 a5.1.1.2.2.2.1 (fun j hj => (a5.1.2.1 j hj).2.1) (by rw [a8]; exact Int.le_refl _)) hc (by omega) ty hW hE ex (by decide)
  have e18 := w6.2.2.2.1
  refine z1.mv (fun T v y => Or.inl ?_) w6.1.1 e18 k1.2.2.2.2.2.2.2.2 (fun y hy => ⟨(m24 y (jl y hy)).1, (k4.2.2.1 y (jl y hy)).2.1, (m24 y (jl y hy)).2.2⟩)
  rcases y with ⟨p', q', w', y1, y2, y3⟩ | ⟨rfl, rfl⟩
  · exact ⟨p', q', w', y1, by omega, y3⟩
  · refine ⟨pcC S, pcR s, _, ⟨?_, ?_⟩, (by omega : w + (pcC R - pcC S) + 0 ≤ _), z2⟩
    · have i9 : ib T 1024 := ⟨t0, by have := crS.2.2; have : (S.i 44).toInt = (s.i 11).toInt := by rw [a1.p44.1]
                                     have := a1.p44
                                     omega⟩
      have k3' := k3
      unfold cTg gAt at k3' ⊢
      rw [if_pos i9] at k3' ⊢
      have y1 := fc.2.2 T.toNatClampNeg (by omega) (by have := k1.2.2.1; omega) (Or.inl (by rw [k3']; exact crS.1.1))
      rw [y1, k3', pS]
    · rw [← h20]
      exact (Int.toNat_of_nonneg a1.p20.1).symm
theorem nt_un {N : Nat} {S : CS} {w : Int32 × CS} (e : f_X0_newTarget N S = some w) (h0 : 0 ≤ (S.i 21).toInt) (h1 : (S.i 21).toInt < 1024) : (w.2.a 17 w.1.toNatClampNeg).toInt < 0 := by
  unfold f_X0_newTarget at e
  cases e
  have hib : ib (S.i 21) 1024 := ⟨h0, by omega⟩
  show (gPut (S.a 17) 1024 (S.i 21) (-1) ((S.i 21 + 1) - 1).toNatClampNeg).toInt < 0
  rw [Int32.add_sub_cancel]
  unfold gPut
  rw [if_pos hib]
  show (if (S.i 21).toNatClampNeg = (S.i 21).toNatClampNeg then (-1 : Int32) else _).toInt < 0
  rw [if_pos rfl]
  decide
theorem nt_eq {N : Nat} {S : CS} {w : Int32 × CS} (e : f_X0_newTarget N S = some w) : w.2.i 20 = S.i 20 ∧ w.2.i 22 = S.i 22 ∧ w.2.a 18 = S.a 18 ∧ w.2.a 19 = S.a 19 ∧ w.2.i 43 = S.i 43 := by
  unfold f_X0_newTarget at e
  cases e
  exact ⟨rfl, rfl, rfl, rfl, rfl⟩
/-- a target more, a token on -/
theorem AMW.nadv {N : Nat} (hN : 1000 ≤ N) {δ : Int} {Z Z' : Int32 → Int32 → Prop} {x2 : Int32} {q0 t : Nat} {U : RS} {Sb : CS} {sb : RS} {d f x4 : Int32} {L : List Nat} {S : CS} {s u : RS} {w : Int32 × CS} {R : Unit × CS} (h : AMW δ Z x2 q0 t U Sb sb f x4 L S s) (hz : ∀ T v : Int32, Z T v → Z' T v) (hv : ENV d S s) (h21 : (S.i 21).toInt + 1 ≤ 3 * (s.i 11).toInt + 8) (nz : ¬ S.i 43 = 0) (ew : f_X0_newTarget N S = some w) (e : f_X9_advance N w.2 = some R) (g : f_X12_next N s = some u) : AMW (δ + 1) Z' x2 q0 t U Sb sb f x4 L R.2 u ∧ TGU w.1 Sb R.2 ∧ u.i 20 = s.i 20 := by
  obtain ⟨n20, n22, n18, n19, n43⟩ := nt_eq ew
  have vw := (hv.nt h21 ew).1
  have nz' : ¬ w.2.i 43 = 0 := by rw [n43]; exact nz
  obtain ⟨a1, a2, a3, a4, a5, a6, a7⟩ := adv_cd hN vw nz' e g
  obtain ⟨w1, w2, w3, w4, w5, w6, w7, w8, w9, w10⟩ := vw.adv hN nz' e g
  obtain ⟨p20, p15, p16, p17, p23, p38, p22, p19⟩ := pe_eq (ke_X9_advance N w.2 R e)
  have s44 : (S.i 44).toInt = (s.i 11).toInt := by rw [hv.p44.1]
  have q44 := hv.p44
  have e66 : u.a 66 t = s.a 66 t := ((FRB.of w2 : FRB (t + 1) s u) t (by omega)).2.2.1
  have x : CRB S → CD1 (-1) 0 S R.2 ∧ CT7 0 (S.i 21).toInt S R.2 := fun crS => by
    obtain ⟨n1, n2, n3, n4, -⟩ := cd_nt ew crS.2.1 (by have := crS.2.2; omega)
    exact ⟨(n1.tr a1).wk (by omega) (by omega), (n4 0).tr (a2 _ _)⟩
  have hd := h.2.1
  refine ⟨h.tk hz x ⟨by omega, by omega⟩ (by omega) (p20.trans n20) (p22.trans n22) (w9.1.trans n18) (p19.trans n19) (kre_f_X12_next N s u g) e66, fun cr => ?_, a6⟩
  have crS := h.crb cr
  have c1 := (h.2.2.2 cr).1
  obtain ⟨n1, n2, n3, n4, -⟩ := cd_nt ew crS.2.1 (by have := crS.2.2; omega)
  have un := nt_un ew crS.2.1 (by have := crS.2.2; omega)
  have l := c1.2.2.1
  refine ⟨⟨by rw [n2]; exact l, by rw [a5, n2]; omega⟩, by rw [p17]; exact un⟩
