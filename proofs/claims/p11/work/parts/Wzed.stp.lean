/-! both readers: more steps inside a statement -/
theorem pcC.pe {S R : CS} (h : pe R = pe S) : pcC R = pcC S := by unfold pcC; rw [(pe_eq h).1]
theorem pcR.qe {s u : RS} (h : qe u = qe s) : pcR u = pcR s := by unfold pcR; rw [(qe_eq h).1.1]
/-- beside what is known already -/
def JAN (K0 K : JKT) : JKT := fun FC SF nm X ω j Z => K0 FC SF nm X ω j Z ∧ K FC SF nm X ω j Z
theorem JSP.fr {K0 K K' : JKT} {y a e a1 e1 : Int} {U s0 : RS} {S R : CS} {s u : RS} (x : JSP y a e a1 e1 U s0 K K' S s R u) : JSP y a e a1 e1 U s0 (JAN K0 K) (JAN K0 K') S s R u := fun rm => by
  obtain ⟨Ψ, x1, x2, x3, x4, x5, x6⟩ := x rm
  exact ⟨Ψ, x1, x2, x3, x4, x5, fun FC SF nm X ω j Z p1 p2 p3 p4 p5 p6 p7 p8 p9 k => ⟨k.1, x6 FC SF nm X ω j Z p1 p2 p3 p4 p5 p6 p7 p8 p9 k.2⟩⟩
/-- one place before another -/
def JLT (p q : Nat) : JKT := fun _ _ _ _ _ _ _ => p < q
theorem JSP.le {K K' : JKT} {y a e a1 e1 : Int} {U s0 : RS} {S R : CS} {s u : RS} (x : JSP y a e a1 e1 U s0 K K' S s R u) : JSP y a e a1 e1 U s0 K (JAN (JLT (pcC S) (pcC R + 1)) K') S s R u := fun rm => by
  obtain ⟨Ψ, x1, x2, x3, x4, x5, x6⟩ := x rm
  refine ⟨Ψ, x1, x2, x3, x4, x5, fun FC SF nm X ω j Z p1 p2 p3 p4 p5 p6 p7 p8 p9 k => ⟨?_, x6 FC SF nm X ω j Z p1 p2 p3 p4 p5 p6 p7 p8 p9 k⟩⟩
  have := x1.1.1
  show pcC S < pcC R + 1
  unfold pcC
  omega
section
variable {A : JBA} {U : RS} {B : CS} {b : RS} {V0 : List RVW} {s0 : RS} {W : List RVW} {K K' : JKT} {a e : Int} {S : CS} {s u : RS}
/-- the reference alone, no code -/
theorem JRG.se (h : JRG A U B b V0 s0 W K a e S s) (q : qe u = qe s) (nv : NMV s u) : JRG A U B b V0 s0 W K a e S u := by
  have y : JSP (-1) a e 0 0 U s0 K K S s S u := fun _ => ⟨GPS.tt, KD1.rf S, ⟨CT7.rf _ _ S, NK.eq rfl rfl (qe_eq q).1.2.2.2.2.2 nv.1⟩, (CD2.qe (c := (s.i 20).toInt) q).k, SAT.tt _ _ _ _ (CD2.qe (c := 0) q).1.2.2.2.2.1, fun _ nm c _ _ ng => ⟨fun k hk => by
    rw [nv.1] at hk
    rw [nv.2 k hk]
    exact ng.1 k hk, ng.2.1, by rw [(qe_eq q).1.2.2.2.2.2]; exact ng.2.2.1, ng.2.2.2.mv (Int.le_refl _) (CD2.qe (c := 0) q).1.2.2.2.2.1⟩, fun _ _ _ _ _ _ _ _ _ _ _ _ _ _ _ _ k => k⟩
  have z := h.cod y
  rw [Int.add_zero, Int.add_zero] at z
  exact z
/-- the class alone, no code -/
theorem JRG.ce {R : CS} (h : JRG A U B b V0 s0 W K a e S s) (q : pe R = pe S) (i21 : R.i 21 = S.i 21) (a48 : R.a 48 = S.a 48) (a49 : R.a 49 = S.a 49) (i50 : R.i 50 = S.i 50) (i44 : R.i 44 = S.i 44) : JRG A U B b V0 s0 W K a e R s := by
  have c1 : CD1 (-0) (-0) S R := CD1.pe (b := 0) q i21 i50 a48 a49 (by rw [i44]; omega)
  have y : JSP (-1) a e (-0) (-0) U s0 K K S s R s := fun _ => ⟨GPS.tt, c1.k, ⟨CT7.eq (pe_eq q).2.2.2.1, NK.eq a48 a49 rfl rfl⟩, KD2.rf _ _, SAT.tt _ _ _ _ (SLC.eq rfl (Int.le_refl _)), fun _ nm c _ _ ng => ⟨fun k hk => by
    rw [a48, a49]
    exact ng.1 k hk, by rw [c1.2.2.2.2.2.2.1]; exact ng.2.1, ng.2.2.1, ng.2.2.2.mv c1.2.2.2.2.2.1.1 (SLC.eq rfl (Int.le_refl _))⟩, fun _ _ _ _ _ _ _ _ _ _ _ _ _ _ _ _ k => k⟩
  have z := h.cod y
  rw [Int.neg_zero, Int.add_zero, Int.add_zero] at z
  exact z
/-- tokens: m bytes on -/
theorem JRG.tk {R : CS} (m : Int) (h : JRG A U B b V0 s0 W K a e S s) (n50 : S.i 50 = s.i 38) (kp : pj R = pj S) (ke : pe R = pe S) (nv : NMV s u) (ke' : qe u = qe s) (l : (S.i 44).toInt + m ≤ (R.i 44).toInt) : JRG A U B b V0 s0 W K (a - m) (e - m) R u := by
  obtain ⟨-, -, -, -, -, -, -, -, -, -, -, -, -, i50, -, -, -, -, -, -, a48, a49, -, -, -, -, -, i21, -⟩ := pj_eq kp
  have z := h.cod (jsp_tok (CD1.pe (b := m) ke i21 i50 a48 a49 l) (fun a b => CT7.eq (pe_eq ke).2.2.2.1) (fun c => CD2.qe ke') n50 nv)
  exact z
theorem JRG.adv {N : Nat} (hN : 1000 ≤ N) {d : Int32} {R : Unit × CS} (h : JRG A U B b V0 s0 W K a e S s) (ev : ENV d S s) (nz : ¬ S.i 43 = 0) (e1 : f_X9_advance N S = some R) (g : f_X12_next N s = some u) : JRG A U B b V0 s0 W K (a - 1) (e - 1) R.2 u := by
  obtain ⟨v, kq, kp, -, q11, q20, q22, -, -, -⟩ := ev.adv hN nz e1 g
  exact h.tk 1 ev.2.1.1 kp (ke_X9_advance N S R e1) (NMV.tbk (TBK.of kq (by rw [q20]; exact Int.le_refl _) (fun j _ => by rw [q22]))) (kre_f_X12_next N s u g) (by rw [ev.p44.1, v.p44.1]; exact q11)
theorem adw_cd {N : Nat} (hN : 1000 ≤ N) {d : Int32} {S : CS} {s u : RS} {R : Unit × CS} (ev : ENV d S s) (tw : 200 ≤ (S.i 43).toInt) (e1 : f_X9_advance N S = some R) (g : f_X12_next N s = some u) : CD1 (-2) (-2) S R.2 := by
  have nz : ¬ S.i 43 = 0 := fun z => by rw [z] at tw; exact absurd tw (by decide)
  obtain ⟨v, kq, kp, -, q11, q20, q22, -, -, -⟩ := ev.adv hN nz e1 g
  have gain := ((y_adv hN ev.1 e1 g).2.1.gain ev.1.2.2.2.2.2.2.1).2.2.2.2.1 (Or.inl tw)
  obtain ⟨-, -, -, -, -, -, -, -, -, -, -, -, -, i50, -, -, -, -, -, -, a48, a49, -, -, -, -, -, i21, -⟩ := pj_eq kp
  exact CD1.pe (b := 2) (ke_X9_advance N S R e1) i21 i50 a48 a49 gain.2.1
/-- a word has two bytes -/
theorem JRG.adw {N : Nat} (hN : 1000 ≤ N) {d : Int32} {R : Unit × CS} (h : JRG A U B b V0 s0 W K a e S s) (ev : ENV d S s) (tw : 200 ≤ (S.i 43).toInt) (e1 : f_X9_advance N S = some R) (g : f_X12_next N s = some u) : JRG A U B b V0 s0 W K (a - 2) (e - 2) R.2 u := by
  have nz : ¬ S.i 43 = 0 := fun z => by rw [z] at tw; exact absurd tw (by decide)
  obtain ⟨v, kq, kp, -, q11, q20, q22, -, -, -⟩ := ev.adv hN nz e1 g
  have gain := ((y_adv hN ev.1 e1 g).2.1.gain ev.1.2.2.2.2.2.2.1).2.2.2.2.1 (Or.inl tw)
  exact h.tk 2 ev.2.1.1 kp (ke_X9_advance N S R e1) (NMV.tbk (TBK.of kq (by rw [q20]; exact Int.le_refl _) (fun j _ => by rw [q22]))) (kre_f_X12_next N s u g) gain.2.1
theorem JRG.opn {N : Nat} (hN : 1000 ≤ N) {d : Int32} {R : Unit × CS} {V : Int32 × RS} {c c' : Int32} (h : JRG A U B b V0 s0 W K a e S s) (ev : ENV d S s) (hc : tyR c) (hd : tm c = c') (h6 : ¬ c' = 6) (h0 : ¬ c = 0) (e1 : f_X1_open N S c = some R) (g : f_X12_open N s c' = some V) (o : V.1 = 1) : JRG A U B b V0 s0 W K (a - 1) (e - 1) R.2 V.2 := by
  rcases y_open hN ev hc hd h6 h0 e1 g with ⟨o1, -, -⟩ | ⟨-, -, v, kq, kp, -, q11, q20, q22, -⟩
  · rw [o] at o1
    exact absurd o1 (by decide)
  · exact h.tk 1 ev.2.1.1 kp (ke_X1_open N S c R e1) (NMV.tbk (TBK.of kq (by rw [q20]; exact Int.le_refl _) (fun j _ => by rw [q22]))) (kre_f_X12_open N s c' V g) (by rw [ev.p44.1, v.p44.1]; exact q11)
theorem JRG.cls {N : Nat} (hN : 1000 ≤ N) {d : Int32} {R : Unit × CS} {V : Int32 × RS} {c c' : Int32} (h : JRG A U B b V0 s0 W K a e S s) (ev : ENV d S s) (h1 : SGS S (cnI S).toNat + 1 ≤ sgI S) (hc : tyR c) (hd : tm c = c') (h6 : ¬ c' = 6) (h0 : ¬ c = 0) (e1 : f_X1_close N S c = some R) (g : f_X12_shut N s c' = some V) (o : V.1 = 1) : JRG A U B b V0 s0 W K (a - 1) (e - 1) R.2 V.2 := by
  rcases y_close hN ev h1 hc hd h6 h0 e1 g with ⟨o1, -, -⟩ | ⟨-, -, v, kq, kp, -, q11, q20, q22, -⟩
  · rw [o] at o1
    exact absurd o1 (by decide)
  · exact h.tk 1 ev.2.1.1 kp (ke_X1_close N S c R e1) (NMV.tbk (TBK.of kq (by rw [q20]; exact Int.le_refl _) (fun j _ => by rw [q22]))) (kre_f_X12_shut N s c' V g) (by rw [ev.p44.1, v.p44.1]; exact q11)
theorem JRG.ned {N : Nat} (hN : 1000 ≤ N) {d : Int32} {R : Unit × CS} {V : Int32 × RS} {c c' : Int32} (h : JRG A U B b V0 s0 W K a e S s) (ev : ENV d S s) (hc : tyR c) (hd : tm c = c') (h6 : ¬ c' = 6) (h0 : ¬ c = 0) (e1 : f_X1_expect N S c = some R) (g : f_X12_need N s c' = some V) (o : V.1 = 1) : JRG A U B b V0 s0 W K (a - 1) (e - 1) R.2 V.2 := by
  rcases y_need hN ev hc hd h6 h0 e1 g with ⟨o1, -, -⟩ | ⟨-, -, v, kq, kp, -, q11, q20, q22, -⟩
  · rw [o] at o1
    exact absurd o1 (by decide)
  · exact h.tk 1 ev.2.1.1 kp (ke_X1_expect N S c R e1) (NMV.tbk (TBK.of kq (by rw [q20]; exact Int.le_refl _) (fun j _ => by rw [q22]))) (kre_f_X12_need N s c' V g) (by rw [ev.p44.1, v.p44.1]; exact q11)
/-- a formula, beside what is known -/
theorem JRG.frm {d : Int32} {T : Nat} {st : Int32} {g δ k : Nat} {Z K0 : JKT} {R : CS} (h : JRG A U B b V0 s0 W (JAN K0 (JQA U δ k (pcC S) (pcR s) Z)) a e S s) (ev : ENV d S s) (xo : EXO d T st S s R u) (xc : CDE g U S s R u) (la : a ≤ 1) (le : e ≤ 1) (hδ : 1264 ≤ δ) (hk : (s0.i 11).toInt + 2 * (k : Int) ≤ (s.i 11).toInt) (l19 : (s0.i 19).toInt ≤ (s.i 19).toInt) : JRG A U B b V0 s0 W (JAN K0 (JQG U δ (k + 1) g (pcC R) (pcR u) Z)) a (e - 1) R u := by
  have z := h.cod (JSP.fr (K0 := K0) (jsp_frm (Z := Z) xc ev.2.1.1 (NMV.tbk xo.2.2.2.2.1) la le hδ hk l19))
  rw [Int.add_zero] at z
  exact z
theorem JRG.frl {d : Int32} {T : Nat} {st : Int32} {g δ k : Nat} {Z K0 : JKT} {R : CS} (h : JRG A U B b V0 s0 W (JAN K0 (JQA U δ k (pcC S) (pcR s) Z)) a e S s) (ev : ENV d S s) (xo : EXO d T st S s R u) (xc : CDE g U S s R u) (la : a ≤ 1) (le : e ≤ 1) (hδ : 1264 ≤ δ) (hk : (s0.i 11).toInt + 2 * (k : Int) ≤ (s.i 11).toInt) (l19 : (s0.i 19).toInt ≤ (s.i 19).toInt) : JRG A U B b V0 s0 W (JAN (JAN K0 (JLT (pcC S) (pcC R + 1))) (JQG U δ (k + 1) g (pcC R) (pcR u) Z)) a (e - 1) R u := by
  have z := h.cod (JSP.le (JSP.fr (K0 := K0) (jsp_frm (Z := Z) xc ev.2.1.1 (NMV.tbk xo.2.2.2.2.1) la le hδ hk l19)))
  exact z.imp (by omega) (by omega) (fun _ _ _ _ _ _ _ _ _ _ _ _ _ k => ⟨⟨k.2.1, k.1⟩, k.2.2⟩)
/-- an instruction in the reference alone -/
theorem JRG.emt {N : Nat} {o x : Int32} {V : Int32 × RS} (h : JRG A U B b V0 s0 W K a e S s) (hz : f_X12_emit N s o x = some V) (h20 : 0 ≤ (s.i 20).toInt ∧ (s.i 20).toInt < 3000) : JRG A U B b V0 s0 W (fun FC SF nm X ω j Z => (U.a 21 (pcR s) = o ∧ U.a 22 (pcR s) = x ∧ U.a 23 (pcR s) = 0 ∧ (((pcR s : Nat) : Int) < (U.i 20).toInt ∧ (U.i 20).toInt ≤ 3000) ∧ pcR V.2 = pcR s + 1) ∧ K FC SF nm X ω j Z) a e S V.2 := by
  have z := h.cod (jsp_emt (K' := fun FC SF nm X ω j Z => (U.a 21 (pcR s) = o ∧ U.a 22 (pcR s) = x ∧ U.a 23 (pcR s) = 0 ∧ (((pcR s : Nat) : Int) < (U.i 20).toInt ∧ (U.i 20).toInt ≤ 3000) ∧ pcR V.2 = pcR s + 1) ∧ K FC SF nm X ω j Z) (y := -1) hz h20 (Or.inl rfl) (fun FC SF nm X ω j Z q1 q2 q3 q4 q5 q6 _ _ _ _ _ _ k => ⟨⟨q1, q2 rfl, q3, q4, q5⟩, k⟩))
  rw [Int.add_zero, Int.add_zero] at z
  exact z
/-- its site waits -/
theorem JRG.ems {N : Nat} {o x : Int32} {V : Int32 × RS} (h : JRG A U B b V0 s0 W K a e S s) (hz : f_X12_emit N s o x = some V) (h20 : 0 ≤ (s.i 20).toInt ∧ (s.i 20).toInt < 3000) : JRG A U B b V0 s0 (sv V.1 :: W) (fun FC SF nm X ω j Z => (U.a 21 (pcR s) = o ∧ V.1.toNatClampNeg = pcR s ∧ U.a 23 (pcR s) = 0 ∧ (((pcR s : Nat) : Int) < (U.i 20).toInt ∧ (U.i 20).toInt ≤ 3000) ∧ pcR V.2 = pcR s + 1) ∧ K FC SF nm X ω j Z) a e S V.2 := by
  obtain ⟨m1, m2, m3, -⟩ := cd_emit hz h20.1 h20.2
  have z := h.sit (y := V.1) (jsp_emt (K' := fun FC SF nm X ω j Z => (U.a 21 (pcR s) = o ∧ V.1.toNatClampNeg = pcR s ∧ U.a 23 (pcR s) = 0 ∧ (((pcR s : Nat) : Int) < (U.i 20).toInt ∧ (U.i 20).toInt ≤ 3000) ∧ pcR V.2 = pcR s + 1) ∧ K FC SF nm X ω j Z) (y := V.1.toInt) hz h20 (Or.inr rfl) (fun FC SF nm X ω j Z q1 q2 q3 q4 q5 q6 _ _ _ _ _ _ k => ⟨⟨q1, q6, q3, q4, q5⟩, k⟩)) ⟨by rw [m2]; exact Int.le_refl _, by rw [m2]; omega⟩
  rw [Int.add_zero, Int.add_zero] at z
  exact z
/-- a name gets the value on top -/
theorem JRG.sto {N : Nat} {k δ : Nat} {cl sl : Int32} {K0 Z : JKT} {p : Unit × CS} {V : Int32 × RS} (h : JRG A U B b V0 s0 W (JAN K0 (JQG U δ 1 0 (pcC S) (pcR s) Z)) a e S s) (e1 : f_X0_add N S 2 cl = some p) (h44 : (S.i 44).toInt ≤ 900) (ha : a ≤ 200) (hz : f_X12_emit N s 5 sl = some V) (h20 : 0 ≤ (s.i 20).toInt ∧ (s.i 20).toInt < 3000) (hk : (k : Int) < (s.i 38).toInt) (h49 : (S.a 49 k).toInt < 0) (hcl : cl = S.a 48 k) (hsl : sl = s.a 40 k) : JRG A U B b V0 s0 W (JAN (JAN K0 (JLT (pcC S) (pcC p.2))) (JQA U δ 0 (pcC p.2) (pcR V.2) Z)) (a + 1) e p.2 V.2 := by
  have f : p.2.a 48 = S.a 48 ∧ p.2.a 49 = S.a 49 := by
    unfold f_X0_add at e1
    cases e1
    exact ⟨rfl, rfl⟩
  refine h.one e1 h44 ha hz h20 (fun FC SF nm X ω j Zp pq a1 a2 b1 b2 b3 c1 c2 ng hc hh tyc tl hω kk => ⟨⟨kk.1, (by show pcC S < pcC p.2; omega)⟩, fun gu => kk.2 ?_⟩)
  obtain ⟨y1, y2, y3, y4, y5⟩ := (ng.1.1 k hk).1 (by rw [f.2]; exact h49)
  have g0 := gu 0
  rw [c1, c2] at g0
  have p12 := pq.1
  exact gi_UStor (pq.hc (hc.up (Nat.le_add_right _ _))) pq.2.1 ⟨⟨y1, y2, by rw [a2, hcl, ← f.1]; exact y3, by rw [b2, hsl]; exact y4, y5⟩, Or.inl ⟨a1, b1, j.h, rfl, ω + j.l + δ - (pcC S + 1), by omega, g0⟩⟩
/-- a name grows -/
theorem JRG.inc {N : Nat} {k δ : Nat} {cl sl : Int32} {K0 Z : JKT} {p : Unit × CS} {V : Int32 × RS} (h : JRG A U B b V0 s0 W (JAN K0 (JQA U δ 0 (pcC S) (pcR s) Z)) a e S s) (e1 : f_X0_add N S 3 cl = some p) (h44 : (S.i 44).toInt ≤ 900) (ha : a ≤ 200) (hz : f_X12_emit N s 6 sl = some V) (h20 : 0 ≤ (s.i 20).toInt ∧ (s.i 20).toInt < 3000) (hk : (k : Int) < (s.i 38).toInt) (h49 : (S.a 49 k).toInt < 0) (hcl : cl = S.a 48 k) (hsl : sl = s.a 40 k) : JRG A U B b V0 s0 W (JAN (JAN K0 (JLT (pcC S) (pcC p.2))) (JQA U δ 0 (pcC p.2) (pcR V.2) Z)) (a + 1) e p.2 V.2 := by
  have f : p.2.a 48 = S.a 48 ∧ p.2.a 49 = S.a 49 := by
    unfold f_X0_add at e1
    cases e1
    exact ⟨rfl, rfl⟩
  refine h.one e1 h44 ha hz h20 (fun FC SF nm X ω j Zp pq a1 a2 b1 b2 b3 c1 c2 ng hc hh tyc tl hω kk => ⟨⟨kk.1, (by show pcC S < pcC p.2; omega)⟩, fun gu => kk.2 (fun g => ?_)⟩)
  obtain ⟨y1, y2, y3, y4, y5⟩ := (ng.1.1 k hk).1 (by rw [f.2]; exact h49)
  have g0 := gu 0
  rw [c1, c2] at g0
  have p12 := pq.1
  exact gi_UStor (pq.hc hc) pq.2.1 ⟨⟨y1, y2, by rw [a2, hcl, ← f.1]; exact y3, by rw [b2, hsl]; exact y4, y5⟩, Or.inr ⟨a1, b1, ω + j.l + δ - (pcC S + 1), by omega, g0⟩⟩
theorem mem_mis {r : RVW} {x : Int32} {W1 W2 : List RVW} (h : r ∈ W1 ++ W2) : r ∈ W1 ++ sv x :: W2 := by
  rcases List.mem_append.mp h with h | h
  · exact List.mem_append_left _ h
  · exact List.mem_append_right _ (List.mem_cons_of_mem _ h)
theorem mem_mis' {r : RVW} {x : Int32} {W1 W2 : List RVW} (h : r ∈ W1 ++ sv x :: W2) : r ∈ W1 ++ W2 ∨ r = sv x := by
  rcases List.mem_append.mp h with h | h
  · exact Or.inl (List.mem_append_left _ h)
  · rcases List.mem_cons.mp h with h | h
    · exact Or.inr h
    · exact Or.inl (List.mem_append_right _ h)
theorem ptl.mis (x : Int32) : ∀ (W1 W2 : List RVW), ptl (W1 ++ sv x :: W2) = ptl (W1 ++ W2)
  | [], W2 => by
    show rtgs (sv x) ++ ptl W2 = _
    rw [sv.tgs]
    rfl
  | r :: W1, W2 => by
    show rtgs r ++ ptl (W1 ++ sv x :: W2) = rtgs r ++ ptl (W1 ++ W2)
    rw [ptl.mis x W1 W2]
/-- a site that waits is aimed -/
theorem JRG.pat {y v : Int32} {n : Nat} {W1 W2 : List RVW} (h : JRG A U B b V0 s0 (W1 ++ sv y :: W2) K a e S s) (hb : (b.i 20).toInt ≤ y.toInt) (y0 : 0 ≤ y.toInt) (hn : n = y.toNatClampNeg) (hv : (s0.i 20).toInt ≤ y.toInt ∨ ∀ w ∈ V0, ¬ rsite w n) (hd : ∀ w ∈ W1 ++ W2, ¬ rsite w n) (hK : ∀ (FC : Nat → Prop) (SF : CS) (nm : Nat → Nat → Prop) (X : Als) (ω : Nat) (j : JCT) (Z : Prop), U.a 22 n = v → K FC SF nm X ω j Z → K' FC SF nm X ω j Z) : JRG A U B b V0 s0 (W1 ++ W2) K' a e S (RS.setA s 22 n v) := by
  intro crB
  obtain ⟨b1, ⟨b2, n8⟩, b3, b4, Ψ, G, col, YJ, sax, ⟨pin, pin0⟩, tgi, jsi, main⟩ := h crB
  obtain ⟨u, hu⟩ : ∃ u, u = RS.setA s 22 n v := ⟨_, rfl⟩
  rw [← hu]
  have ui : ∀ k : Nat, u.i k = s.i k := by rw [hu]; exact fun _ => rfl
  have ua : ∀ k : Nat, k ≠ 22 → u.a k = s.a k := by rw [hu]; exact fun k hk => setA_nk hk
  have un : u.a 22 n = v := by rw [hu]; exact setA_at
  have ue : ∀ j : Nat, ¬ j = n → u.a 22 j = s.a 22 j := by rw [hu]; exact fun j hj => setA_ne hj
  clear hu
  have ea : (W1 ++ sv y :: W2) ++ V0 = W1 ++ sv y :: (W2 ++ V0) := by
    rw [List.append_assoc]
    rfl
  have eb : (W1 ++ W2) ++ V0 = W1 ++ (W2 ++ V0) := List.append_assoc _ _ _
  have ny : ((n : Nat) : Int) = y.toInt := by rw [hn]; exact clampI y0
  have ns : (n : Int) < (s.i 20).toInt := pin.1 n (Or.inr ⟨sv y, by rw [ea]; exact List.mem_append_right _ List.mem_cons_self, sv.site.mpr ny⟩)
  have cn : col n = none := jsi.1.2.1.1 (sv y) (by rw [ea]; exact List.mem_append_right _ List.mem_cons_self) n (sv.site.mpr ny)
  have nop : ¬ PEN ((W1 ++ W2) ++ V0) col n := fun p => by
    rcases p with p | ⟨q, hq, p⟩
    · exact p cn
    · rcases List.mem_append.mp hq with hq | hq
      · exact hd q hq p
      · rcases hv with hv | hv
        · have := pin0.1 n (Or.inr ⟨q, hq, p⟩)
          omega
        · exact hv q hq p
  have pe1 : ∀ {k : Nat}, PEN ((W1 ++ W2) ++ V0) col k → PEN ((W1 ++ sv y :: W2) ++ V0) col k := fun {k} p => by
    rw [ea]
    rw [eb] at p
    rcases p with p | ⟨q, hq, p⟩
    · exact Or.inl p
    · exact Or.inr ⟨q, mem_mis hq, p⟩
  have pe2 : ∀ {k : Nat}, ¬ k = n → PEN ((W1 ++ sv y :: W2) ++ V0) col k → PEN ((W1 ++ W2) ++ V0) col k := fun {k} hk p => by
    rw [ea] at p
    rw [eb]
    rcases p with p | ⟨q, hq, p⟩
    · exact Or.inl p
    · rcases mem_mis' hq with hq | hq
      · exact Or.inr ⟨q, hq, p⟩
      · rw [hq] at p
        have := sv.site.mp p
        omega
  have pt : ∀ {P : RVW → Prop}, ¬ P (sv y) → ((∃ r ∈ (W1 ++ W2) ++ V0, P r) ↔ ∃ r ∈ (W1 ++ sv y :: W2) ++ V0, P r) := fun {P} hP => by
    rw [ea, eb]
    constructor
    · rintro ⟨r, hr, p⟩
      exact ⟨r, mem_mis hr, p⟩
    · rintro ⟨r, hr, p⟩
      rcases mem_mis' hr with hr | hr
      · exact ⟨r, hr, p⟩
      · rw [hr] at p
        exact absurd p hP
  have pz : ∀ k : Nat, PCZ ((W1 ++ W2) ++ V0) k ↔ PCZ ((W1 ++ sv y :: W2) ++ V0) k := fun k => pt (fun p => absurd p.1 (by rw [sv.v]; decide))
  have py : ∀ k : Nat, PTY ((W1 ++ W2) ++ V0) k ↔ PTY ((W1 ++ sv y :: W2) ++ V0) k := fun k => pt (fun p => absurd p.1 sv.ty)
  have pa : ∀ k : Nat, PCA ((W1 ++ W2) ++ V0) k ↔ PCA ((W1 ++ sv y :: W2) ++ V0) k := fun k => pt (fun p => absurd p.1 sv.ty)
  have mv : ∀ {c : Int} {z : RS}, c ≤ (n : Int) → KD2 c z s → KD2 c z u := fun {c z} lc k => ⟨⟨by rw [ui]; exact k.1.1, by rw [ui]; exact k.1.2.1, by rw [ui]; exact k.1.2.2.1, by rw [ui]; exact k.1.2.2.2.1, fun q => by
    have z9 := k.1.2.2.2.2 q
    unfold SLO at z9 ⊢
    rw [ui, ui]
    exact z9⟩, fun j hj => by
    rw [ua 21 (by decide), ua 23 (by decide), ue j (by omega)]
    exact k.2.1 j hj, fun j hj => by
    rw [ua 25 (by decide), ua 26 (by decide), ua 27 (by decide), ua 28 (by decide)]
    exact k.2.2.1 j hj, fun j hj => by
    rw [ua 30 (by decide), ua 31 (by decide), ua 32 (by decide)]
    exact k.2.2.2.1 j hj, fun j hj => by
    rw [ua 34 (by decide), ua 35 (by decide), ua 36 (by decide), ua 37 (by decide)]
    exact k.2.2.2.2 j hj⟩
  have jsj : JSJ Ψ (W1 ++ W2) V0 col YJ b s0 u := by
    obtain ⟨j1, ⟨j2, j3, j4⟩, j5, j6⟩ := jsi.1
    rw [sv.rm W1 W2] at j1 j6
    refine ⟨j1, ⟨fun r hr k q => j2 r ?_ k q, j3, fun w hw => j4 w (mem_mis hw)⟩, fun j hj => ?_, fun w w1 w2 => by rw [ua 31 (by decide)]; exact j6 w w1 w2⟩
    · rw [ea]
      rw [eb] at hr
      exact mem_mis hr
    · rw [ue j (fun z => hj (by rw [z]; exact cn))]
      exact j5 j hj
  have swt : SWT (b.i 24).toInt G V0 S u := by
    refine ⟨jsi.2.2.2.1.mv (Int.le_refl _) (Int.le_refl _) (fun _ _ => rfl) (by rw [ui]; exact Int.le_refl _) (fun j _ => by
      rw [ua 25 (by decide), ua 26 (by decide), ua 27 (by decide), ua 28 (by decide)]
      exact ⟨rfl, rfl, rfl, rfl⟩) (fun r hr z => ue _ (fun e9 => ?_)) (fun r hr z => by rw [ua 31 (by decide)]) (fun r hr z => by rw [ua 30 (by decide)]), jsi.2.2.2.2.mv (by rw [ui]; exact Int.le_refl _) (by rw [ui]; exact Int.le_refl _)⟩
    have rs := rsite.h8 z ((jsi.2.2.2.2 r hr).1 z).1
    rw [e9] at rs
    rcases hv with w | w
    · have := pin0.1 n (Or.inr ⟨r, hr, rs⟩)
      omega
    · exact w r hr rs
  have b4' : KDC s0 u := ⟨⟨by rw [ui]; exact b4.1.1, by rw [ui]; exact b4.1.2.1, by rw [ui]; exact b4.1.2.2.1, by rw [ui]; exact b4.1.2.2.2.1, fun q => by
    have z9 := b4.1.2.2.2.2 q
    unfold SLO at z9 ⊢
    rw [ui, ui]
    exact z9⟩, True.intro⟩
  refine ⟨b1, ⟨b2, n8.nk (NK.eq rfl rfl (ui 52) (ui 38))⟩, mv (by omega) b3, b4', Ψ, G, col, YJ, ?_, ⟨⟨fun k q => by rw [ui]; exact pin.1 k (pe1 q), fun k q => by rw [ui]; exact pin.2.1 k ((pz k).mp q), fun k q => by rw [ui]; exact pin.2.2.1 k ((py k).mp q), fun k q => by rw [ui]; exact pin.2.2.2 k ((pa k).mp q)⟩, pin0⟩, ?_, ⟨jsj, jsi.2.1, fun r hr => jsi.2.2.1 r (by rw [ea]; rw [eb] at hr; exact mem_mis hr), swt⟩, ?_⟩
  · intro sl
    have z := (SAX.mo (fun k q => (py k).mp q) (fun k q => (pa k).mp q) sax) sl
    unfold SLO GHM at z ⊢
    rw [ui 42, ui 20, ui 29]
    exact z
  · unfold TGI at tgi ⊢
    rw [ea, ptl.mis] at tgi
    rw [eb]
    exact tgi
  intro FC SF nm X h0 ω c0 psi ng0 hc0 hh0 hω
  obtain ⟨⟨ng, hc, hh, wn⟩, mn⟩ := main FC SF nm X h0 ω c0 psi ng0 hc0 hh0 hω
  refine ⟨⟨⟨⟨fun k hk => ?_, ng.1.2.1, by rw [ui]; exact ng.1.2.2.1, ng.1.2.2.2.mv (Int.le_refl _) (SLC.eq (ui 42) (by rw [ui]; exact Int.le_refl _))⟩, ng.2⟩, hc, hh, wn.mv (Int.le_refl _) (fun r hr _ => mem_mis hr)⟩, fun fc fg hA tyc jr => ?_⟩
  · rw [ui] at hk
    rw [ua 40 (by decide)]
    exact ng.1.1 k hk
  · obtain ⟨g1, g4, g5, g6, g7⟩ := fg
    have un' : U.a 22 n = v := ((g4 n (by omega) (by rw [ui]; exact ns)).2.1 nop).trans un
    refine hK FC SF nm X ω _ _ un' (mn (fc.pl (fun z hz => by rw [ea, ptl.mis]; rw [eb] at hz; exact hz)) ⟨by rw [ui] at g1; exact g1, fun j j1 j2 => ?_, fun j j1 j2 => ?_, fun j j1 j2 q => ?_, fun j j1 j2 => ?_⟩ hA tyc jr)
    · have z := g4 j j1 (by rw [ui]; exact j2)
      rw [ua 21 (by decide), ua 23 (by decide)] at z
      refine ⟨z.1, fun q => ?_, fun q => z.2.2 (fun p => q ((pt (P := fun r => (r.v = 218 ∨ r.v = 995) ∧ (j : Int) = (r.2.1 66).toInt) (fun p => absurd p.1 (by rw [sv.v]; decide))).mp p))⟩
      have jn : ¬ j = n := fun e9 => q (by rw [e9]; exact Or.inr ⟨sv y, by rw [ea]; exact List.mem_append_right _ List.mem_cons_self, sv.site.mpr ny⟩)
      exact (z.2.1 (fun p => q (pe1 p))).trans (ue j jn)
    · have z := g5 j j1 (by rw [ui]; exact j2)
      rw [ua 25 (by decide), ua 26 (by decide), ua 27 (by decide), ua 28 (by decide)] at z
      exact ⟨z.1, z.2.1, fun q => z.2.2.1 (fun p => q ((pz j).mp p)), z.2.2.2⟩
    · have z := g6 j j1 (by rw [ui]; exact j2) (fun p => q ((py j).mp p))
      rw [ua 30 (by decide), ua 31 (by decide), ua 32 (by decide)] at z
      exact z
    · have z := g7 j j1 (by rw [ui]; exact j2)
      rw [ua 34 (by decide), ua 35 (by decide), ua 36 (by decide), ua 37 (by decide)] at z
      exact ⟨z.1, z.2.1, z.2.2.1, fun q => z.2.2.2 (fun p => q ((pa j).mp p))⟩
end
