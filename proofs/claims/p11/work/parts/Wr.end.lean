/-! both readers: statements; what stands behind a formula in one -/
def EXO (d : Int32) (t : Nat) (st : Int32) (S : CS) (q : RS) (R : CS) (u : RS) : Prop := ENV d R u ∧ tpI u = (t : Int) ∧ (u.a 64 t = q.a 64 t ∧ u.a 65 t = st ∧ u.a 66 t = q.a 66 t ∧ u.a 67 t = q.a 67 t ∧ u.a 68 t = q.a 68 t ∧ u.a 69 t = q.a 69 t ∧ u.a 70 t = q.a 70 t ∧ u.a 71 t = q.a 71 t ∧ u.a 72 t = q.a 72 t ∧ u.a 73 t = q.a 73 t ∧ u.b 74 t = q.b 74 t) ∧ FRB t q u ∧ TBK q u ∧ CKX S R ∧ (q.i 11).toInt + 1 ≤ (u.i 11).toInt ∧ phI q + 1 ≤ phI u ∧ (q.i 17).toInt + 1 ≤ (u.i 17).toInt ∧ u.i 19 = q.i 19
theorem XO.ex {d : Int32} {t : Nat} {st k : Int32} {S R : CS} {q u : RS} (h : XO d (t + 1) S (TH q t st k) R u) : EXO d t st S q R u := by
  obtain ⟨w1, w2, w3, w4, w5, w6, w7, w8, w9⟩ := h
  obtain ⟨f0, f1, f2, f3, f4, f5, f6, f7, f8, f9, f10⟩ := w3 t (by omega)
  exact ⟨w1, by rw [w2]; omega, ⟨f0.trans (TH.fk0 (Nat.le_refl t)), f1.trans TH.st, f2, f3, f4, f5, f6, f7, f8, f9, f10⟩, TH.frb.tr (w3.mo (by omega)), TH.tbk.tr w4, w5, w6, w7, w8, w9⟩
/-- a formula, then one instruction, then a sign -/
def EUN (a : Int) (o x z zx : Int32) (U : RS) (S : CS) (s : RS) (R : CS) (u : RS) : Prop := CRB S → CD1 a (-1) S R ∧ CT7 0 (S.i 21).toInt S R ∧ CD2 (s.i 20).toInt s u ∧ ∃ Ψ : GPS, pcC S + 1 ≤ pcC R ∧ SAT Ψ S s R u ∧ ∀ (FC : Nat → Prop) (SF : CS) (nm : Nat → Nat → Prop) (X : Als) (c : List Ent) (h w W g0 : Nat), Ψ FC nm → FGC S R SF → FGR s u U → NMG nm c S s → HC0 nm h c → ((2 * h + 0 + msr c : Nat) : Int) ≤ (s.i 11).toInt → TYC SF U (GU FC SF U nm X) W c → W + 1 ≤ w → (∀ p q : Nat, PQX SF U p q → SF.a 15 p = o → SF.a 16 p = x → U.a 21 q = z → U.a 22 q = zx → U.a 23 q = u.a 23 q → p + 1 = pcC R → q + 1 = pcR u → GU FC SF U nm X p q (h + 1) w 0 c) → GU FC SF U nm X (pcC S) (pcR s) h (w + (pcC R - 1 - pcC S)) g0 c
theorem CDE.th {g : Nat} {U : RS} {S R : CS} {s u : RS} {t : Nat} {a b : Int32} (h : CDE g U S (TH s t a b) R u) (n50 : S.i 50 = s.i 38) : CDE g U S s R u := by
  intro cr
  obtain ⟨b1, b2, b3, Ψ, sat, b4⟩ := h cr
  have k : ∀ c : Int, CD2 c s (TH s t a b) := fun c => CD2.qe rfl
  refine ⟨b1, b2, (k _).tr b3, Ψ, sat.wd (MNO.of (CD1.rf S) (k 0)) (MNO.of (CD1.rf R) (CD2.rf 0 u)), ?_⟩
  intro FC SF nm X c h w W g0 ps fc fr ng hc hh ty hW hg z
  exact b4 FC SF nm X c h w W g0 ps fc (fr.sub (k 0) (CD2.rf 0 u) (fun _ _ _ => ⟨rfl, rfl, rfl⟩)) (ng.mv n50 (CD1.rf S) (k 0) rfl (fun _ _ => rfl) (Int.le_refl _)) hc hh ty hW hg z
theorem y_expr {N : Nat} (hN : 1000 ≤ N) {E1 : CS → Option (Unit × CS)} {E2 : CS → Option (Int32 × CS)} (hm1 : ∀ σ, Kf (CS.i σ 32) (E1 σ)) (hm2 : ∀ σ, Kf (CS.i σ 32) (E2 σ)) (hE : SXR N 18 E1) {d : Int32} {S : CS} {q V U : RS} {n t : Nat} {st : Int32} {p : Unit × CS} (hv : ENV d S q) (tq : tpI q = t) (h3 : 3 ≤ phI q) (e : f_X1_expression N E1 E2 S = some p) (hV : f_X12_then N q st 16 = some V) (g : f_X12_parse_10 N n V = some U) : (¬ p.2.i 32 = 0 ∧ ¬ U.i 15 = 0) ∨ ∃ (m : Nat) (u : RS), f_X12_parse_10 N m u = some U ∧ EXO d t st S q p.2 u ∧ CDE 0 U S q p.2 u := by
  obtain ⟨hV', t99⟩ := r_then tq hV
  rw [hV'] at g
  rcases sx_expression hN hm1 hm2 hE d S (TH q t st 16) U n (t + 1) p hv.th (TH.tp tq (by omega)) TH.fk TH.fs (show 3 ≤ phI q from h3) e g with z | ⟨m, u, g3, xo, xc⟩
  · exact Or.inl z
  · exact Or.inr ⟨m, u, g3, xo.ex, xc.th hv.2.1.1⟩
theorem y_cond {N : Nat} (hN : 1000 ≤ N) {E1 : CS → Option (Unit × CS)} {E2 : CS → Option (Int32 × CS)} (hm1 : ∀ σ, Kf (CS.i σ 32) (E1 σ)) (hm2 : ∀ σ, Kf (CS.i σ 32) (E2 σ)) (hE2 : SXN N 22 E2) {d : Int32} {S : CS} {q V U : RS} {n t : Nat} {st : Int32} {p : Int32 × CS} (hv : ENV d S q) (tq : tpI q = t) (h3 : 3 ≤ phI q) (e : f_X1_condition N E1 E2 S = some p) (hV : f_X12_then N q st 20 = some V) (g : f_X12_parse_10 N n V = some U) : (¬ p.2.i 32 = 0 ∧ ¬ U.i 15 = 0) ∨ ∃ (m : Nat) (u : RS), f_X12_parse_10 N m u = some U ∧ EXO d t st S q p.2 u ∧ (p.1 = 0 ∨ p.1 = 1) ∧ (p.1 = 1 ↔ (q.i 10 = 432 ∧ (u.i 17).toInt = (q.i 17).toInt + 1)) ∧ (CDE 2 U S q p.2 u ∧ (p.1 = 1 → CDE 4 U S q p.2 u)) := by
  obtain ⟨hV', t99⟩ := r_then tq hV
  rw [hV'] at g
  rcases sx_condition hN hm1 hm2 hE2 d S (TH q t st 20) U n (t + 1) p hv.th (TH.tp tq (by omega)) TH.fk TH.fs (show 3 ≤ phI q from h3) e g with z | ⟨m, u, g3, xo, x1, x2, xc⟩
  · exact Or.inl z
  · exact Or.inr ⟨m, u, g3, xo.ex, x1, x2, xc.1.th hv.2.1.1, fun z => (xc.2 z).th hv.2.1.1⟩
/-- a statement's frame is over -/
theorem y_over {N : Nat} {d : Int32} {S : CS} {s V : RS} {t : Nat} {x : Int32} (h : ENV d S s) (ht : tpI s = t) (t9 : t < 1000) (e : f_X12_over N s x = some V) : ENV d S V ∧ tpI V = (t : Int) - 1 ∧ (∀ r : Nat, FRB r s V) ∧ TBK s V ∧ V.i 75 = x ∧ (x = 0 ∨ x = 1) ∧ phI V = phI s ∧ V.i 11 = s.i 11 ∧ V.i 17 = s.i 17 ∧ V.i 19 = s.i 19 := by
  unfold f_X12_over at e
  obtain ⟨hx, e⟩ := hf_ite e
  cases e
  refine ⟨h.kq rfl rfl rfl rfl rfl rfl rfl rfl rfl rfl rfl rfl rfl rfl rfl rfl rfl rfl rfl rfl ⟨h.2.2.2.2.2.2.1, h.2.2.2.2.2.2.2.1⟩ (h.wp.of (Int.le_refl _) rfl rfl rfl rfl rfl), tp_sub ht t9, fun r _ _ => ⟨rfl, rfl, rfl, rfl, rfl, rfl, rfl, rfl, rfl, rfl, rfl⟩, ?_, rfl, hx, rfl, rfl, rfl, rfl⟩
  exact ⟨⟨⟨rfl, rfl, rfl, rfl, rfl, rfl, rfl, rfl, rfl, rfl⟩, fun _ _ => ⟨rfl, rfl, rfl⟩, fun _ _ => ⟨rfl, rfl, rfl, rfl, rfl, rfl, rfl, rfl⟩, fun _ _ => ⟨rfl, rfl⟩, ⟨Int.le_refl _, fun j h1 h2 => absurd (show (j : Int) < (s.i 59).toInt from h2) (by omega)⟩, fun _ _ => ⟨rfl, rfl, rfl⟩, Int.le_refl _, fun _ _ => rfl, Int.le_refl _, fun _ _ => ⟨rfl, rfl⟩, Int.le_refl _, fun _ _ => ⟨rfl, rfl, rfl⟩⟩, Int.le_refl _, fun _ _ => rfl⟩
/-- only the second operands differ -/
def EQ23 (s y : RS) : Prop := y.i = s.i ∧ y.b = s.b ∧ y.l = s.l ∧ (∀ k : Nat, k ≠ 23 → y.a k = s.a k)
theorem EQ23.env {d : Int32} {S : CS} {s y : RS} (h : EQ23 s y) (v : ENV d S s) : ENV d S y := by
  obtain ⟨h1, h2, h3, h4⟩ := h
  have p : phI y = phI s := by unfold phI; rw [h1]
  exact v.kq (by rw [h1]) (by rw [h1]) (by rw [h1]) (by rw [h1]) (by rw [h1]) (by rw [h1]) (by rw [h1]) (h4 1 (by decide)) (h4 4 (by decide)) (h4 41 (by decide)) (by rw [h2]) (by rw [h2]) (by rw [h1]) (by rw [h1]) (by rw [h1]) (by rw [h1]) (by rw [h1]) (by rw [h1]) (by rw [h1]) h3 ⟨by rw [h1]; exact v.2.2.2.2.2.2.1, by rw [p]; exact v.2.2.2.2.2.2.2.1⟩ (v.wp.of (by rw [h1]; exact Int.le_refl _) (by rw [h1]) (by rw [h1]) (by rw [h1]) (h4 58 (by decide)) (h4 62 (by decide)))
theorem EQ23.frb {s y : RS} {t : Nat} (h : EQ23 s y) : FRB t s y := by
  obtain ⟨h1, h2, h3, h4⟩ := h
  exact fun j _ => ⟨by rw [h4 64 (by decide)], by rw [h4 65 (by decide)], by rw [h4 66 (by decide)], by rw [h4 67 (by decide)], by rw [h4 68 (by decide)], by rw [h4 69 (by decide)], by rw [h4 70 (by decide)], by rw [h4 71 (by decide)], by rw [h4 72 (by decide)], by rw [h4 73 (by decide)], by rw [h2]⟩
theorem EQ23.tbk {s y : RS} (h : EQ23 s y) : TBK s y := by
  obtain ⟨h1, h2, h3, h4⟩ := h
  exact ⟨⟨⟨by rw [h1], by rw [h1], by rw [h1], by rw [h1], by rw [h1], by rw [h1], by rw [h1], h4 1 (by decide), h4 4 (by decide), by rw [h2]⟩, fun j _ => ⟨by rw [h2], by rw [h4 40 (by decide)], by rw [h4 41 (by decide)]⟩, fun j _ => ⟨by rw [h4 44 (by decide)], by rw [h2], by rw [h4 46 (by decide)], by rw [h4 47 (by decide)], by rw [h4 50 (by decide)], by rw [h4 51 (by decide)], by rw [h4 48 (by decide)], by rw [h4 49 (by decide)]⟩, fun j _ => ⟨by rw [h4 57 (by decide)], by rw [h4 58 (by decide)]⟩, ⟨by rw [h1]; exact Int.le_refl _, fun j k1 k2 => by rw [h1] at k2; omega⟩, fun j _ => ⟨by rw [h4 60 (by decide)], by rw [h4 61 (by decide)], by rw [h4 62 (by decide)]⟩, by rw [h1]; exact Int.le_refl _, fun j _ => by rw [h4 30 (by decide)], by rw [h1]; exact Int.le_refl _, fun j _ => ⟨by rw [h4 34 (by decide)], by rw [h4 37 (by decide)]⟩, by rw [h1]; exact Int.le_refl _, fun j _ => ⟨by rw [h4 25 (by decide)], by rw [h4 27 (by decide)], by rw [h4 28 (by decide)]⟩⟩, by rw [h1]; exact Int.le_refl _, fun j _ => by rw [h4 22 (by decide)]⟩
theorem eun_of {N : Nat} {d : Int32} {S : CS} {q u U y2 V : RS} {o x z zx : Int32} {p w r : Unit × CS} {y b : Int32 × RS} (hv : ENV d S q) (xc : CDE 0 U S q p.2 u) (w1 : ENV d p.2 u) (w5 : TBK q u) (w19 : u.i 19 = q.i 19) (e2 : f_X0_add N p.2 o x = some w) (hy : f_X12_emit N u z zx = some y) (q23 : EQ23 y.2 y2) (j23 : ∀ j : Nat, ¬ j = pcR u → y2.a 23 j = y.2.a 23 j) (ev : ENV d w.2 y2) (e3 : f_X1_expect N w.2 59 = some r) (hb : f_X12_need N y2 59 = some b) (o3 : ENV d r.2 b.2) (o5 : pj r.2 = pj w.2) (o7 : (y2.i 11).toInt + 1 ≤ (b.2.i 11).toInt) (qV : qe V = qe b.2) : EUN 0 o x z zx U S q r.2 V := by
  intro cr
  obtain ⟨f1, f2, f3, Ψ1, sat1, f4⟩ := xc cr
  have crp : CRB p.2 := cr.of f1 (by omega) (by omega)
  have p44 := w1.p44
  have p44' : (p.2.i 44).toInt = (u.i 11).toInt := by rw [p44.1]
  obtain ⟨d1, d2, ⟨d3, d3'⟩, d4, d5, d6⟩ := cd_add e2 crp.1.1 (by have := crp.1.2; omega)
  have p20 := w1.p20
  obtain ⟨m1, m2, m3, m4, m5, m6⟩ := cd_emit hy p20.1 (by omega)
  obtain ⟨j1, j2, j3, j4, j5, j6⟩ := tok_cd ev o3 o5 (ke_X1_expect N w.2 59 r e3) (kre_f_X12_need N y2 59 b hb) o7
  obtain ⟨qi, qb, ql, qa⟩ := q23
  have pu : ((pcR u : Nat) : Int) = (u.i 20).toInt := Int.toNat_of_nonneg p20.1
  have yy : ∀ c : Int, c ≤ (u.i 20).toInt → CD2 c y.2 y2 := fun c hc => ⟨⟨by rw [qi]; exact Int.le_refl _, by rw [qi]; exact Int.le_refl _, by rw [qi]; exact Int.le_refl _, by rw [qi]; exact Int.le_refl _, SLC.eq (by rw [qi]) (by rw [qi]; exact Int.le_refl _), by rw [qi]⟩, fun j hj => ⟨by rw [qa 21 (by decide)], by rw [qa 22 (by decide)], j23 j (by omega)⟩, fun j _ => ⟨by rw [qa 25 (by decide)], by rw [qa 26 (by decide)], by rw [qa 27 (by decide)], by rw [qa 28 (by decide)]⟩, fun j _ => ⟨by rw [qa 30 (by decide)], by rw [qa 31 (by decide)], by rw [qa 32 (by decide)]⟩, fun j _ => ⟨by rw [qa 34 (by decide)], by rw [qa 35 (by decide)], by rw [qa 36 (by decide)], by rw [qa 37 (by decide)]⟩⟩
  have uV : CD2 (u.i 20).toInt u V := ((m1.tr (yy _ (Int.le_refl _))).tr (j3 _)).tr (CD2.qe qV)
  have c1 : CD1 0 (-1) p.2 r.2 := (d1.tr j1).wk (by omega) (by omega)
  have t1 : ∀ a b : Int, CT7 a b p.2 r.2 := fun a b => (CT7.eq d4).tr (j2 a b)
  have l3 := f3.1.1
  refine ⟨(f1.tr c1).wk (by omega) (by omega), f2.tr (t1 _ _), f3.tr (uV.wk l3), Ψ1, ?_, sat1.wd (MNO.of (CD1.rf S) (CD2.rf 0 q)) (MNO.of c1 uV), ?_⟩
  · have pS : ((pcC S : Nat) : Int) = (S.i 20).toInt := Int.toNat_of_nonneg cr.1.1
    have lp := f1.1.1
    have pr : ((pcC r.2 : Nat) : Int) = (p.2.i 20).toInt + 1 := by
      unfold pcC
      rw [j4, d2]
      exact Int.toNat_of_nonneg (by have := crp.1.1; omega)
    omega
  intro FC SF nm X c h w0 W g0 ps fc fr ng hc hh ty hW last
  have pS : ((pcC S : Nat) : Int) = (S.i 20).toInt := Int.toNat_of_nonneg cr.1.1
  have pp : ((pcC p.2 : Nat) : Int) = (p.2.i 20).toInt := Int.toNat_of_nonneg crp.1.1
  have lp := f1.1.1
  have pr : pcC r.2 = pcC p.2 + 1 := by
    unfold pcC
    rw [j4, d2]
    have := crp.1.1
    omega
  have pV : pcR V = pcR u + 1 := by
    unfold pcR
    rw [(qe_eq qV).1.1, j6, qi, m3]
    have := p20.1
    omega
  have V20 : (V.i 20).toInt = (u.i 20).toInt + 1 := by rw [(qe_eq qV).1.1, j6, qi, m3]
  have f15 := fc.2.1 (pcC p.2) (by omega) (by rw [j4, d2]; omega)
  have k15 := j1.2.1 (pcC p.2) (by rw [d2]; omega)
  have u21 := fr.2.1 (pcR u) (by omega) (by omega)
  have a1 : V.a 21 (pcR u) = z ∧ V.a 22 (pcR u) = zx := by
    obtain ⟨-, v21, v22, -⟩ := qe_eq qV
    obtain ⟨-, b21, b22, -⟩ := qe_eq (kre_f_X12_need N y2 59 b hb)
    rw [v21, v22, b21, b22, qa 21 (by decide), qa 22 (by decide)]
    exact ⟨m4, m5⟩
  have frU := fr.1
  have z0 := last (pcC p.2) (pcR u) ⟨by have := crp.1.2; omega, by omega, frU.2.2⟩ (by rw [f15.1, k15.1]; exact d3) (by rw [f15.2, k15.2]; exact d3') (by rw [u21.1]; exact a1.1) (by rw [u21.2.1]; exact a1.2) u21.2.2 pr.symm pV.symm
  have z1 := f4 FC SF nm X c h w0 W g0 ps (fc.sub (CD1.rf S) c1 (t1 _ _)) (fr.sub (CD2.rf 0 q) uV (uV.c3 (Int.le_refl _))) ng hc hh ty hW True.intro z0
  rw [pr, show w0 + (pcC p.2 + 1 - 1 - pcC S) = w0 + (pcC p.2 - pcC S) by omega]
  exact z1
theorem y_e119 {N : Nat} {x1 x2 : Int32} : ∀ (n : Nat) (s : RS) (x3 : Int32) (V : RS), 0 ≤ x3.toInt → f_X12_ending_119 N n s x1 x2 x3 = some V → ∃ y : RS, EQ23 s y ∧ (∀ j : Nat, ¬ j = x2.toNatClampNeg → y.a 23 j = s.a 23 j) ∧ (∀ g : Nat, x3.toInt ≤ (g : Int) → (g : Int) < (s.i 43).toInt → s.a 44 g = 3 → (∀ g' : Nat, g < g' → (g' : Int) < (s.i 43).toInt → ¬ s.a 44 g' = 3) → y.a 23 x2.toNatClampNeg = s.a 47 g) ∧ ((∀ g : Nat, x3.toInt ≤ (g : Int) → (g : Int) < (s.i 43).toInt → ¬ s.a 44 g = 3) → y.a 23 x2.toNatClampNeg = s.a 23 x2.toNatClampNeg) ∧ ((f_X12_need N y 59).bind fun p8 => if ib x1 1000 then (if (p8.2.a 66 (x1.toNatClampNeg)) = 412 then (f_X12_over N p8.2 1).bind fun p14 => some p14 else (f_X12_over N p8.2 0).bind fun p12 => some p12) else none) = some V
  | 0, _, _, _, _, e => by cases e
  | n + 1, s, x3, V, x0, e => by
    have e' : b_X12_ending_119 N (f_X12_ending_119 N n) s x1 x2 x3 = some V := e
    unfold b_X12_ending_119 at e'
    by_cases c : s.i 43 ≤ x3
    · rw [if_pos c] at e'
      have lc := le_int c
      exact ⟨s, ⟨rfl, rfl, rfl, fun _ _ => rfl⟩, fun _ _ => rfl, fun g g1 g2 => by omega, fun _ => rfl, e'⟩
    · rw [if_neg c] at e'
      obtain ⟨ib4, e'⟩ := hf_ite e'
      have i46 := ib4.2
      have ck := clampI x0
      have lt := lt_int (Int32.not_le.mp c)
      have x31 : (x3 + 1).toInt = x3.toInt + 1 := ad1 x0 (by omega)
      have go : ∀ v : Int32, (s.a 44 x3.toNatClampNeg = 3 → v = s.a 47 x3.toNatClampNeg) → (¬ s.a 44 x3.toNatClampNeg = 3 → v = s.a 23 x2.toNatClampNeg) → f_X12_ending_119 N n (RS.setA s 23 (x2.toNatClampNeg) v) x1 x2 (x3 + 1) = some V → ∃ y : RS, EQ23 s y ∧ (∀ j : Nat, ¬ j = x2.toNatClampNeg → y.a 23 j = s.a 23 j) ∧ (∀ g : Nat, x3.toInt ≤ (g : Int) → (g : Int) < (s.i 43).toInt → s.a 44 g = 3 → (∀ g' : Nat, g < g' → (g' : Int) < (s.i 43).toInt → ¬ s.a 44 g' = 3) → y.a 23 x2.toNatClampNeg = s.a 47 g) ∧ ((∀ g : Nat, x3.toInt ≤ (g : Int) → (g : Int) < (s.i 43).toInt → ¬ s.a 44 g = 3) → y.a 23 x2.toNatClampNeg = s.a 23 x2.toNatClampNeg) ∧ ((f_X12_need N y 59).bind fun p8 => if ib x1 1000 then (if (p8.2.a 66 (x1.toNatClampNeg)) = 412 then (f_X12_over N p8.2 1).bind fun p14 => some p14 else (f_X12_over N p8.2 0).bind fun p12 => some p12) else none) = some V := fun v v1 v2 e => by
        obtain ⟨y, ⟨h1, h2, h3, h4⟩, h6, h7, h8, h5⟩ := y_e119 n _ (x3 + 1) V (by omega) e
        have at23 : (RS.setA s 23 x2.toNatClampNeg v).a 23 x2.toNatClampNeg = v := setA_at
        have n44 : (RS.setA s 23 x2.toNatClampNeg v).a 44 = s.a 44 := setA_nk (by decide)
        have n47 : (RS.setA s 23 x2.toNatClampNeg v).a 47 = s.a 47 := setA_nk (by decide)
        rw [n44] at h7 h8
        rw [n47] at h7
        rw [at23] at h8
        refine ⟨y, ⟨h1, h2, h3, fun k hk => (h4 k hk).trans (setA_nk hk)⟩, fun j hj => (h6 j hj).trans (setA_ne hj), fun g g1 g2 g3 g4 => ?_, fun g0 => ?_, h5⟩
        · by_cases z : (g : Int) = x3.toInt
          · have eg : g = x3.toNatClampNeg := by omega
            rw [eg] at g3 g4 ⊢
            rw [h8 (fun g' k1 k2 => g4 g' (by omega) k2)]
            exact v1 g3
          · exact h7 g (by omega) g2 g3 g4
        · rw [h8 (fun g' k1 k2 => g0 g' (by omega) k2)]
          exact v2 (g0 x3.toNatClampNeg (by omega) (by omega))
      by_cases c3 : s.a 44 (x3.toNatClampNeg) = 3
      · rw [if_pos c3] at e'
        obtain ⟨-, e'⟩ := hf_ite e'
        exact go _ (fun _ => rfl) (fun z => absurd c3 z) e'
      · rw [if_neg c3] at e'
        obtain ⟨-, e'⟩ := hf_ite e'
        exact go _ (fun z => absurd z c3) (fun _ => rfl) e'
/-- the last instruction's second word: the depth of the innermost arms -/
def YDP (q u : RS) : Prop := ∀ g : Nat, (g : Int) < (q.i 43).toInt → q.a 44 g = 3 → (∀ g' : Nat, g < g' → (g' : Int) < (q.i 43).toInt → ¬ q.a 44 g' = 3) → u.a 23 (pcR u - 1) = q.a 47 g
/-- log, return, yield: behind the first word -/
theorem y_end1 {N : Nat} (hN : 1000 ≤ N) {E1 : CS → Option (Unit × CS)} {E2 : CS → Option (Int32 × CS)} (hm1 : ∀ σ, Kf (CS.i σ 32) (E1 σ)) (hm2 : ∀ σ, Kf (CS.i σ 32) (E2 σ)) (hE : SXR N 18 E1) {d : Int32} {S : CS} {q V U : RS} {n t : Nat} {v o x0 : Int32} {p w r : Unit × CS} (hv : ENV d S q) (tq : tpI q = t) (hk : q.a 64 t = 6) (h66 : q.a 66 t = v) (hv3 : v = 412 ∨ v = 420 ∨ v = 431) (h3 : 3 ≤ phI q) (e1 : f_X1_expression N E1 E2 S = some p) (e2 : f_X0_add N p.2 o x0 = some w) (e3 : f_X1_expect N w.2 59 = some r) (hV : f_X12_then N q 1 16 = some V) (g : f_X12_parse_10 N n V = some U) : (¬ r.2.i 32 = 0 ∧ ¬ U.i 15 = 0) ∨ ∃ (m : Nat) (u : RS), f_X12_parse_10 N m u = some U ∧ XO d t S q r.2 u ∧ (u.i 75 = 1 ↔ v = 412) ∧ (u.i 75 = 0 ∨ u.i 75 = 1) ∧ EUN 0 o x0 (if v = 412 then 16 else if v = 420 then 17 else 18) 0 U S q r.2 u ∧ YDP q u := by
  rcases y_expr hN hm1 hm2 hE hv tq h3 e1 hV g with ⟨x1, x2⟩ | ⟨m, u, g2, ⟨w1, w2, ⟨f0, f1, f2, -⟩, w4, w5, w6, w7, w8, w9, w10⟩, xc⟩
  · refine Or.inl ⟨?_, x2⟩
    have z : ¬ w.2.i 32 = 0 := by rw [fst_add e2]; exact x1
    rw [kF_X1_expect N w.2 59 r e3 z]
    exact z
  · obtain ⟨m2, V2, hV2, g3⟩ := rl_6 g2 w2 w1.1.2.1 (f0.trans hk)
    unfold f_X12_ending at hV2
    obtain ⟨hib, hV2⟩ := hf_ite hV2
    have t9 : t < 1000 := by
      have h2 : (u.i 63).toInt = (t : Int) := w2
      have := hib.2
      omega
    rw [tp_nat w2, if_neg (show ¬ u.a 65 t = 0 by rw [f1]; decide)] at hV2
    have em : ∃ (z : Int32) (y : Int32 × RS), f_X12_emit N u z 0 = some y ∧ f_X12_ending_117 N y.2 (u.i 63) y.1 = some V2 ∧ z = (if v = 412 then 16 else if v = 420 then 17 else 18) := by
      have f66 : u.a 66 t = v := f2.trans h66
      by_cases c1 : u.a 66 t = 412
      · rw [if_pos c1] at hV2
        obtain ⟨y, hy, hV2⟩ := hf_bind hV2
        exact ⟨_, y, hy, hV2, (if_pos (f66.symm.trans c1)).symm⟩
      · rw [if_neg c1] at hV2
        by_cases c2 : u.a 66 t = 420
        · rw [if_pos c2] at hV2
          obtain ⟨y, hy, hV2⟩ := hf_bind hV2
          exact ⟨_, y, hy, hV2, by rw [if_neg (fun q => c1 (f66.trans q)), if_pos (f66.symm.trans c2)]⟩
        · rw [if_neg c2] at hV2
          obtain ⟨y, hy, hV2⟩ := hf_bind hV2
          exact ⟨_, y, hy, hV2, by rw [if_neg (fun q => c1 (f66.trans q)), if_neg (fun q => c2 (f66.trans q))]⟩
    obtain ⟨z, y, hy, hV3, ez⟩ := em
    obtain ⟨n1, n2, n3, n4, n5, n6⟩ := em_env w1 (by omega) hy
    obtain ⟨nq, -, y11, -, -, -, -, y17, y19, -⟩ := qj2_eq n3
    unfold f_X12_ending_117 at hV3
    obtain ⟨y2, hy2, hj2, hg2, hn2, hV4⟩ := y_e119 N y.2 0 V2 (by decide) hV3
    have ey1 : y.1.toNatClampNeg = pcR u := by
      have p20 := w1.p20
      have i3 : (u.i 20).toInt < 3000 := by omega
      rw [(cd_emit hy p20.1 i3).2.1]
      rfl
    rw [tp_nat w2] at hV4
    obtain ⟨b, hb, hV4⟩ := hf_bind hV4
    have ev := (hy2.env n1).kd (kd_X0_add N p.2 o x0 w e2)
    have ty : tpI y2 = t := by
      show (y2.i 63).toInt = (t : Int)
      rw [hy2.1]
      exact qj_63 nq w2
    rcases y_need hN ev (c := 59) (d := 59) (Or.inl ⟨by decide, by decide⟩) (by decide) (by decide) (by decide) e3 hb with ⟨o1, o2, o3⟩ | ⟨o1, o2, o3, o4, o5, o6, o7, o8, o9, o10, o11, o12⟩
    · refine Or.inl ⟨o2, u_flt g3 ?_⟩
      obtain ⟨-, hV4⟩ := hf_ite hV4
      by_cases c : b.2.a 66 t = 412
      · rw [if_pos c, ob_id] at hV4
        exact krf_f_X12_over N b.2 1 V2 hV4 o3
      · rw [if_neg c, ob_id] at hV4
        exact krf_f_X12_over N b.2 0 V2 hV4 o3
    · obtain ⟨-, hV4⟩ := hf_ite hV4
      have tb : tpI b.2 = t := qj_63 o4 ty
      have fb : FRB (t + 1) y2 b.2 := FRB.of o4
      have fy : FRB (t + 1) y.2 y2 := hy2.frb
      have fu : FRB (t + 1) u y.2 := FRB.of nq
      have b66 : b.2.a 66 t = v := by
        rw [(fb t (by omega)).2.2.1, (fy t (by omega)).2.2.1, (fu t (by omega)).2.2.1, f2]
        exact h66
      have t17 : (b.2.i 17).toInt = (u.i 17).toInt + 1 := by
        rw [o6, t17_up (N := N) ev, hy2.1, y17]
      have pb : phI b.2 = phI u + 2 := by
        have p1 : phI y2 = phI y.2 := by unfold phI; rw [hy2.1]
        have p2 : phI b.2 = phI y2 + 3 := by
          unfold phI
          rw [o8, o6, t17_up (N := N) ev]
          omega
        omega
      have b11 : (u.i 11).toInt + 1 ≤ (b.2.i 11).toInt := by
        rw [hy2.1, y11] at o7
        exact o7
      have b19 : b.2.i 19 = u.i 19 := by rw [o12, hy2.1, y19]
      have kp := pj2_eq (kd_X0_add N p.2 o x0 w e2)
      have ck : CKX S r.2 := (w6.tr (CKX.of kp.1 kp.2.2.2.2.1 kp.2.2.2.2.2.2.2.2.2.2.2)).tr (CKX.of o5 o10 o11)
      have ydp : ∀ x : Int32, f_X12_over N b.2 x = some V2 → YDP q V2 := fun x hx => by
        have e20 : (V2.i 20).toInt = (u.i 20).toInt + 1 := by
          have q1 := (qe_eq (kre_f_X12_over N b.2 x V2 hx)).1.1
          have q2 := (qe_eq (kre_f_X12_need N y2 59 b hb)).1.1
          rw [q1, q2, hy2.1, n6]
        have p20 := w1.p20
        have pv : pcR V2 - 1 = pcR u := by
          unfold pcR
          rw [e20]
          omega
        have a23 : V2.a 23 = y2.a 23 := by
          rw [(qe_eq (kre_f_X12_over N b.2 x V2 hx)).2.2.2.1, (qe_eq (kre_f_X12_need N y2 59 b hb)).2.2.2.1]
        have t43 : y.2.i 43 = q.i 43 := by
          have z1 : y.2.i 43 = u.i 43 := n2.1.1.2.2.2.2.1
          exact z1.trans w5.1.1.2.2.2.2.1
        have t44 : ∀ g : Nat, (g : Int) < (q.i 43).toInt → y.2.a 44 g = q.a 44 g ∧ y.2.a 47 g = q.a 47 g := fun g hg => by
          have z1 := n2.1.2.2.1 g (by rw [w5.1.1.2.2.2.2.1]; exact hg)
          have z2 := w5.1.2.2.1 g hg
          exact ⟨z1.1.trans z2.1, z1.2.2.2.1.trans z2.2.2.2.1⟩
        rw [ey1, t43] at hg2
        intro g g1 g2 g3
        rw [pv, a23, hg2 g (by rw [z_t0]; omega) g1 (by rw [(t44 g g1).1]; exact g2) (fun g' k1 k2 => by rw [(t44 g' k2).1]; exact g3 g' k1 k2)]
        exact (t44 g g1).2
      have fin : ∀ x : Int32, f_X12_over N b.2 x = some V2 → (x = 1 ↔ v = 412) → ∃ (m : Nat) (u : RS), f_X12_parse_10 N m u = some U ∧ XO d t S q r.2 u ∧ (u.i 75 = 1 ↔ v = 412) ∧ (u.i 75 = 0 ∨ u.i 75 = 1) ∧ EUN 0 o x0 (if v = 412 then 16 else if v = 420 then 17 else 18) 0 U S q r.2 u ∧ YDP q u := fun x hx hx2 => by
        obtain ⟨v1, v2, v3, v4, v5, v6, v7, v8, v9, v10⟩ := y_over o3 tb t9 hx
        refine ⟨m2, V2, g3, ⟨v1, v2, ((((w4.tr (FRB.of nq)).tr hy2.frb).tr (FRB.of o4)).tr (v3 t)), ((((w5.tr n2).tr hy2.tbk).tr (TBK.of o4 (by rw [o8]; exact Int.le_refl _) (fun j _ => by rw [o9]))).tr v4), ck, by rw [v8]; omega, by omega, by rw [v9]; omega, by rw [v10, b19, w10]⟩, by rw [v5]; exact hx2, by rw [v5]; exact v6, ?_, ?_⟩
        · rw [← ez]
          exact eun_of hv xc w1 w5 w10 e2 hy hy2 (fun j hj => hj2 j (by rw [ey1]; exact hj)) ev e3 hb o3 o5 o7 (kre_f_X12_over N b.2 x V2 hx)
        · exact ydp x hx
      by_cases c : b.2.a 66 t = 412
      · rw [if_pos c, ob_id] at hV4
        exact Or.inr (fin 1 hV4 ⟨fun _ => b66.symm.trans c, fun _ => rfl⟩)
      · rw [if_neg c, ob_id] at hV4
        exact Or.inr (fin 0 hV4 ⟨fun z => absurd z (by decide), fun z => absurd (b66.trans z) c⟩)
