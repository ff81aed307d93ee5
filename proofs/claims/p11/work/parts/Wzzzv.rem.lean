/-! both readers: a try goes -/
/-- all but flags, what waits, ends of tries -/
def E5R (s u : RS) : Prop := (∀ k : Nat, k ≠ 52 → k ≠ 56 → k ≠ 63 → k ≠ 75 → u.i k = s.i k) ∧ u.l = s.l ∧ u.b = s.b ∧ ∀ k : Nat, k ≠ 32 → k ≠ 50 → k ≠ 51 → k ≠ 62 → u.a k = s.a k
theorem E5R.n {s u : RS} (h : E5R s u) : u.i 29 = s.i 29 ∧ u.i 20 = s.i 20 ∧ u.i 24 = s.i 24 ∧ u.i 33 = s.i 33 ∧ u.i 43 = s.i 43 ∧ u.i 38 = s.i 38 ∧ u.i 59 = s.i 59 := ⟨h.1 29 (by decide) (by decide) (by decide) (by decide), h.1 20 (by decide) (by decide) (by decide) (by decide), h.1 24 (by decide) (by decide) (by decide) (by decide), h.1 33 (by decide) (by decide) (by decide) (by decide), h.1 43 (by decide) (by decide) (by decide) (by decide), h.1 38 (by decide) (by decide) (by decide) (by decide), h.1 59 (by decide) (by decide) (by decide) (by decide)⟩
theorem E5R.f {s u : RS} (h : E5R s u) : (u.a 64 = s.a 64 ∧ u.a 65 = s.a 65 ∧ u.a 66 = s.a 66 ∧ u.a 67 = s.a 67 ∧ u.a 68 = s.a 68 ∧ u.a 69 = s.a 69 ∧ u.a 70 = s.a 70 ∧ u.a 71 = s.a 71 ∧ u.a 72 = s.a 72 ∧ u.a 73 = s.a 73) ∧ (u.a 44 = s.a 44 ∧ u.a 57 = s.a 57 ∧ u.a 58 = s.a 58 ∧ u.a 22 = s.a 22) ∧ (u.a 25 = s.a 25 ∧ u.a 27 = s.a 27 ∧ u.a 28 = s.a 28 ∧ u.a 30 = s.a 30 ∧ u.a 34 = s.a 34 ∧ u.a 37 = s.a 37) ∧ (u.a 46 = s.a 46 ∧ u.a 47 = s.a 47 ∧ u.a 48 = s.a 48 ∧ u.a 49 = s.a 49 ∧ u.a 40 = s.a 40 ∧ u.a 41 = s.a 41 ∧ u.a 60 = s.a 60 ∧ u.a 61 = s.a 61 ∧ u.a 1 = s.a 1 ∧ u.a 4 = s.a 4) := by
  have e := h.2.2.2
  exact ⟨⟨e 64 (by decide) (by decide) (by decide) (by decide), e 65 (by decide) (by decide) (by decide) (by decide), e 66 (by decide) (by decide) (by decide) (by decide), e 67 (by decide) (by decide) (by decide) (by decide), e 68 (by decide) (by decide) (by decide) (by decide), e 69 (by decide) (by decide) (by decide) (by decide), e 70 (by decide) (by decide) (by decide) (by decide), e 71 (by decide) (by decide) (by decide) (by decide), e 72 (by decide) (by decide) (by decide) (by decide), e 73 (by decide) (by decide) (by decide) (by decide)⟩, ⟨e 44 (by decide) (by decide) (by decide) (by decide), e 57 (by decide) (by decide) (by decide) (by decide), e 58 (by decide) (by decide) (by decide) (by decide), e 22 (by decide) (by decide) (by decide) (by decide)⟩, ⟨e 25 (by decide) (by decide) (by decide) (by decide), e 27 (by decide) (by decide) (by decide) (by decide), e 28 (by decide) (by decide) (by decide) (by decide), e 30 (by decide) (by decide) (by decide) (by decide), e 34 (by decide) (by decide) (by decide) (by decide), e 37 (by decide) (by decide) (by decide) (by decide)⟩, ⟨e 46 (by decide) (by decide) (by decide) (by decide), e 47 (by decide) (by decide) (by decide) (by decide), e 48 (by decide) (by decide) (by decide) (by decide), e 49 (by decide) (by decide) (by decide) (by decide), e 40 (by decide) (by decide) (by decide) (by decide), e 41 (by decide) (by decide) (by decide) (by decide), e 60 (by decide) (by decide) (by decide) (by decide), e 61 (by decide) (by decide) (by decide) (by decide), e 1 (by decide) (by decide) (by decide) (by decide), e 4 (by decide) (by decide) (by decide) (by decide)⟩⟩
theorem chn.e5 {s u : RS} (h : E5R s u) : ∀ (L : List Nat) (k : Int32), chn s k L → chn u k L
  | [], _, g => g
  | j :: L, k, g => ⟨g.1, by rw [h.n.2.2.1]; exact g.2.1, g.2.2.1, by rw [h.f.2.2.1.2.1]; exact chn.e5 h L _ g.2.2.2⟩
theorem kch.e5 {s u : RS} (h : E5R s u) : ∀ (L : List Nat) (k : Int32), kch s k L → kch u k L
  | [], _, g => g
  | j :: L, k, g => ⟨g.1, by rw [h.n.2.2.2.1]; exact g.2.1, g.2.2.1, by rw [h.f.2.2.1.2.2.2.2.2]; exact kch.e5 h L _ g.2.2.2⟩
theorem RFR.e5 {S : CS} {s u : RS} {a t g w : Nat} (h : E5R s u) (r : RFR S s a t g w) : RFR S u a t g w := by
  obtain ⟨⟨f64, f65, f66, f67, f68, f69, f70, f71, f72, f73⟩, ⟨f44, f57, f58, f22⟩, -, -⟩ := h.f
  unfold RFR F301 F302 F303 F203 F204 F205 F206 F207 F304 F212 F301 F218 FTR FTS F301 FBL at *
  rw [f64, f65, f66, f67, f68, f71, f72, f73, f44, f57, f58, h.n.1, h.2.2.1]
  exact r
theorem CST.e5 {S : CS} {s u : RS} {c : CEL} {m e k m' e' k' : Int} (h : E5R s u) (g : CST S s c m e k m' e' k') : CST S u c m e k m' e' k' := by
  obtain ⟨g1, g2, g3, g4, g5, g6, g7⟩ := g
  obtain ⟨⟨f64, f65, f66, f67, f68, f69, f70, f71, f72, f73⟩, ⟨f44, f57, f58, f22⟩, ⟨f25, f27, f28, f30, f34, f37⟩, -⟩ := h.f
  refine ⟨g1, g2, g3.e5 h, g4, fun q => ?_, g6, fun q => ?_⟩
  · obtain ⟨x1, x2, x3, L, y1, y2, y3, y4⟩ := g5 q
    rw [f66, f22, h.n.2.1]
    refine ⟨x1, x2, x3, L, ?_, chn.e5 h _ _ y2, ?_, y4⟩
    · unfold CSM at *
      rw [f28, f25]
      exact y1
    · unfold FQL at *
      rw [f67]
      exact y3
  · obtain ⟨x1, L, y1, y2, y3, y4⟩ := g7 q
    rw [f66, f30, f72]
    refine ⟨x1, L, kch.e5 h _ _ y1, ?_, y3, y4⟩
    unfold KMK at *
    rw [f34]
    exact y2
theorem LOW.e5 {S : CS} {s u : RS} {c : CEL} (h : E5R s u) (g : LOW S s c) : LOW S u c := by
  unfold LOW at *
  rw [h.f.1.1, h.f.1.2.1]
  exact g
theorem STK.e5 {S : CS} {s u : RS} (h : E5R s u) : ∀ (L : List CEL) (m e k : Int), STK S s L m e k → STK S u L m e k
  | [], _, _, _, _ => trivial
  | c :: L, m, e, k, g => by
    obtain ⟨m', e', k', g1, g2, g3⟩ := g
    exact ⟨m', e', k', g1.e5 h, fun c0 hc => ⟨(g2 c0 hc).1, (g2 c0 hc).2.e5 h⟩, STK.e5 h L m' e' k' g3⟩
theorem COL.e5 {S : CS} {s u : RS} {L : List CEL} {col : Nat → Option (Nat × Bool)} {b20 : Int} (g : COL S s L col b20) (h : E5R s u) : COL S u L col b20 := by
  obtain ⟨⟨f64, f65, f66, f67, f68, f69, f70, f71, f72, f73⟩, ⟨f44, f57, f58, f22⟩, -, ⟨-, -, f48, f49, -⟩⟩ := h.f
  unfold COL PLF at *
  rw [f22, f48, f49, f66, f67, f68, h.n.2.1]
  exact g
theorem RWI.pop2 {S R : CS} {n a : Nat} (h : RWI S) (n4 : n < 400) (hn : cnI S = (n : Int) + 1) (ha : S.r 51 n = some a) (er : R.r = S.r) (eo : ∀ b : Nat, b ≠ a → R.o b = S.o b) (eol : R.ol = S.ol) (ec : cnI R = (n : Int)) (ehk : R.hs = S.hs ∧ R.L = S.L ∧ R.k = S.k) (hs : sgI S ≤ sgI R) (he : eI S ≤ eI R) : RWI R := by
  obtain ⟨h1, h2, h3, ⟨h4, h5⟩, h6, h7, h8⟩ := h
  have tn : (cnI S).toNat = n + 1 := by omega
  have tr : (cnI R).toNat = n := by omega
  rw [tn] at h5 h6 h7 h8
  have h5' : NR S n := fun i hi => h5 i (by omega)
  have rs : RSQ S R n := fun i hi => ⟨by rw [er], fun b hb => ⟨eo b (fun z => by
    rw [z] at hb
    have := h2 i n a (by omega) n4 hb ha
    omega), by rw [eol]⟩⟩
  have iq : IQ S n := fun m hm => h6 m (by omega)
  obtain ⟨g1, g2, -, -, -⟩ := rs.sums h5'
  have e1 : WCS S (n + 1) = WCS S n + cost S (rowA S n) := rfl
  have e2 : SGS S (n + 1) = SGS S n + sgn S (rowA S n) := rfl
  have c0 := cost.ge S (rowA S n)
  have s0 : 0 ≤ sgn S (rowA S n) := by
    unfold sgn
    by_cases k1 : S.o (rowA S n) 0 = 302
    · rw [if_pos k1]; decide
    · rw [if_neg k1]
      by_cases k2 : S.o (rowA S n) 0 = 301 ∨ S.o (rowA S n) 0 = 212 ∨ S.o (rowA S n) 0 = 218 ∨ S.o (rowA S n) 0 = 213 ∨ S.o (rowA S n) 0 = 215 ∨ S.o (rowA S n) 0 = 216
      · rw [if_pos k2]; decide
      · rw [if_neg k2]; exact Int.le_refl _
  refine ⟨fun i b hi e => ?_, fun i j b hi hj e1 e2 => ?_, by rw [ehk.1, ehk.2.1]; exact h3, ⟨by omega, by rw [tr]; exact fun i hi => by rw [er]; exact h5' i hi⟩, by rw [tr]; exact iq.of rs h5', by rw [tr, g1]; omega, by rw [tr, g2]; omega⟩
  · rw [er] at e
    have := h1 i b hi e
    unfold oK at *
    rw [ehk.2.1, ehk.2.2]
    exact this
  · rw [er] at e1 e2
    exact h2 i j b hi hj e1 e2
theorem BO2.wl {B : CS} {b : RS} {S : CS} {s : RS} : ∀ (L : List CEL) (c : CEL) (m e k : Int), STK S s (c :: L) m e k → BO2 B b S (c :: L) → (b.i 56).toInt ≤ (ceW c : Int)
  | [], _, _, _, _, _, h => by
    have := h.2.1
    omega
  | c0 :: L, c, m, e, k, st, h => by
    obtain ⟨m', e', k', h1, h2, h3⟩ := st
    obtain ⟨l1, -⟩ := h2 c0 rfl
    have z := BO2.wl L c0 m' e' k' h3 h
    have := l1.2.2.2.1
    omega
set_option maxHeartbeats 2000000 in
theorem COR.remT {d : Int32} {B : CS} {b : RS} {t0 : Nat} {L : List CEL} {x : Int} {S R : CS} {s σ0 σ1 v : RS} {c1 c : CEL} {x2 vv : Int32} (h : COR d B b t0 (c1 :: c :: L) x S s) (tp : TOP S s c1) (bz : BAZ B b (c1 :: c :: L)) (hT : t0 ≤ ceT c1) (ty : isTy (S.o c1.2.1 0))
    (σi : σ0.i 59 = s.i 59 ∧ (σ0.i 56).toInt = (ceW c1 : Int)) (σa : ∀ k : Nat, k ≠ 32 → σ0.a k = s.a k) (rx : RSX (s.a 66 (ceT c1)) x2 0 σ0 σ1)
    (ve : E5R s v) (v56 : v.i 56 = σ0.i 56) (v75 : v.i 75 = vv) (v63 : tpI v = (ceT c1 : Int) - 1) (va : v.a 50 = σ1.a 50 ∧ v.a 51 = σ1.a 51 ∧ v.a 62 = σ1.a 62)
    (Ri : ∀ k : Nat, k ≠ 36 → k ≠ 38 → k ≠ 53 → R.i k = S.i k) (hvv : vv = 0 ∨ vv = 1) (R36 : R.i 36 = vv) (R38 : (R.i 38).toInt = (S.i 38).toInt - 1) (R53 : (R.i 53).toInt = (c.1 : Int) + 1) (Rr : R.r = S.r ∧ R.ol = S.ol ∧ R.b = S.b ∧ R.l = S.l ∧ (R.hs = S.hs ∧ R.L = S.L ∧ R.k = S.k)) (Ro : ∀ a : Nat, a ≠ c1.2.1 → R.o a = S.o a) (Ra : R.a 0 = S.a 0 ∧ R.a 9 = S.a 9 ∧ R.a 18 = S.a 18 ∧ R.a 49 = S.a 49) (R52 : ∀ i : Nat, (i : Int) < (S.i 55).toInt → (¬ x2 = 0 → R.a 52 i = S.a 52 i) ∧ (x2 = 0 → (INR S c1 i ∧ R.a 52 i = 0) ∨ (¬ INR S c1 i ∧ R.a 52 i = S.a 52 i))) (o50 : S.i 50 = S.o c1.2.1 3) {w0 : Int32} (hw0 : w0.toInt = (b.i 19).toInt + (nSg (S.o c1.2.1 0) : Int)) : POPD d B (RS.setI b 19 w0) t0 c L R v := by
  have adr := h.adr
  have hinL := h.inlB tp
  obtain ⟨h1, h2, h3, h4, h5, ⟨h6, h7, h8, h9⟩, ⟨h10, h11, h12, hsg⟩, h13, ⟨h14, h15, h16⟩, h17, ⟨h18, h19, h20, col, h21⟩⟩ := h
  have ord := STK.ord (c :: L) c1 _ _ _ h2
  obtain ⟨inj1, inj2⟩ := STK.inj (c1 :: c :: L) _ _ _ h2
  have o14 := STK.o14 (c :: L) c1 _ _ _ h2
  have s14 := BAZ.o14 h5 (c :: L) c1 _ _ _ bz h2
  obtain ⟨m', e', k', c1s, lkl, stl⟩ := id h2
  obtain ⟨lk, lw⟩ := lkl c rfl
  have t1 := tp.1
  have n1 := lk.1
  obtain ⟨r1, r2, r3, r4, r5⟩ := BAZ.all h5 L c _ _ _ bz stl (by omega)
  obtain ⟨hB38, hWb⟩ := BAZ.b38 _ bz
  obtain ⟨n29, n20, n24, n33, n43, n38, n59⟩ := ve.n
  obtain ⟨⟨f64, f65, f66, f67, f68, f69, f70, f71, f72, f73⟩, ⟨f44, f57, f58, f22⟩, ⟨f25, f27, f28, f30, f34, f37⟩, ⟨f46, f47, f48, f49, f40, f41, f60, f61, f1, f4⟩⟩ := ve.f
  have eoL : ∀ y ∈ c :: L, R.o y.2.1 = S.o y.2.1 := fun y hy => Ro y.2.1 (adr y hy)
  obtain ⟨d1, d2⟩ := DSM.eq (c :: L) eoL
  have ngo : ¬ isGo (S.o c1.2.1 0) := fun z => by
    rcases ty with t | t | t | t <;> rw [t] at z <;> unfold isGo at z <;> exact absurd z (by decide)
  have n218 : ¬ S.o c1.2.1 0 = 218 := fun z => ngo (Or.inr (Or.inl z))
  have dp1 : nDp (S.o c1.2.1 0) = 1 := by
    rcases ty with t | t | t | t <;> rw [t] <;> rfl
  have db0 : dbt (S.o c1.2.1 0) = 0 := by
    rcases ty with t | t | t | t <;> rw [t] <;> rfl
  have i22 := Ri 22 (by decide) (by decide) (by decide)
  have i21 := Ri 21 (by decide) (by decide) (by decide)
  have i44 := Ri 44 (by decide) (by decide) (by decide)
  have i43 := Ri 43 (by decide) (by decide) (by decide)
  have i34 := Ri 34 (by decide) (by decide) (by decide)
  have i50 := Ri 50 (by decide) (by decide) (by decide)
  have i54 := Ri 54 (by decide) (by decide) (by decide)
  have i55 := Ri 55 (by decide) (by decide) (by decide)
  have i56 := Ri 56 (by decide) (by decide) (by decide)
  have e1 : PDM S (c1 :: c :: L) = dbt (S.o c1.2.1 0) + PDM S (c :: L) := rfl
  have e2 : DSM S (c1 :: c :: L) = (nDp (S.o c1.2.1 0) : Int) + DSM S (c :: L) := rfl
  rw [e1, db0] at h11
  rw [e2, dp1] at h13
  obtain ⟨h13, h13b⟩ := h13
  have ds := (PDM.ge S (c :: L)).2
  obtain ⟨em, ee⟩ := c1s.2.2.2.1 n218
  -- the walls below
  have wl := WLT L c _ _ _ stl r3
  have l5 := lk.2.2.2.1
  have v56' : (v.i 56).toInt = (ceW c1 : Int) := by rw [v56]; exact σi.2
  have hwp := h1.wp
  have tbw := h7.2.2.2.2.2.1
  have gl := STK.gl L c _ _ _ stl r1
  have glb := STK.glb L c _ _ _ stl r1
  have wpv : WPI v := by
    refine ⟨⟨by rw [n43]; exact hwp.1.1, by omega, fun z => ?_, by rw [n29]; exact hwp.1.2.2.2⟩, fun j hj => ?_⟩
    · rw [f58, n43]
      rcases wl with ⟨w, hw, w1, w2, -⟩ | ⟨-, w2, w3⟩
      · obtain ⟨⟨-, z2⟩, -⟩ := stl.ty w hw w1
        have g3 := gl.2 w hw
        have tg := tp.2.1
        have en : ((v.i 56).toInt - 1).toNat = ceW w := by omega
        have l3 := lk.2.2.1
        rw [en, z2]
        omega
      · have en : ((v.i 56).toInt - 1).toNat = ((b.i 56).toInt - 1).toNat := by omega
        have y := (tbw ((b.i 56).toInt - 1).toNat (by omega)).2
        have z3 := w3 (by omega)
        have := h7.2.1
        rw [en, y]
        omega
    · rw [n59] at hj
      rw [va.2.2, n29]
      have z0 := hwp.2 j hj
      by_cases c0 : s.a 62 j = s.a 66 (ceT c1)
      · rcases rx.2.2.1 j (by omega) (by rw [σi.1]; exact hj) (by rw [σa 62 (by decide)]; exact c0) with ⟨-, y⟩ | ⟨-, y1, y2⟩ | ⟨-, -, y, -⟩
        · rw [y]
          have em1 : (-1 : Int32).toInt = -1 := by decide
          have := (h2.ids c1 List.mem_cons_self ty)
          rw [em1]
          omega
        · rw [y2, σa 57 (by decide), σi.2]
          rcases wl with ⟨w, hw, w1, w2, -⟩ | ⟨-, w2, w3⟩
          · obtain ⟨⟨z1, -⟩, z3⟩ := stl.ty w hw w1
            have en : ((ceW c1 : Int) - 1).toNat = ceW w := by omega
            rw [en, z1]
            exact z3
          · exfalso
            obtain ⟨q1, q2⟩ := y1
            rw [σa 60 (by decide), σa 58 (by decide)] at q2
            rw [σi.2] at q1 q2
            obtain ⟨c', hc', g', l', _, -, p', -⟩ := h3.2.2.1 j hj c1 List.mem_cons_self ty c0
            have hc2 : c' ∈ c :: L := by
              rcases List.mem_cons.mp hc' with z | z
              · rw [z] at l'
                omega
              · exact z
            have g1 := glb c' hc2
            have g2 := p'.2.1
            have en : ((ceW c1 : Int) - 1).toNat = ((b.i 56).toInt - 1).toNat := by omega
            have y := (tbw ((b.i 56).toInt - 1).toNat (by omega)).2
            have z3 := w3 (by omega)
            rw [en, y] at q2
            omega
        · rw [y]
          have em1 : (-1 : Int32).toInt = -1 := by decide
          have := (h2.ids c1 List.mem_cons_self ty)
          rw [em1]
          omega
      · rw [rx.2.1 j (Or.inr (Or.inr (by rw [σa 62 (by decide)]; exact c0))), σa 62 (by decide)]
        exact z0
  have evv : ENV d S v := by
    have vi := ve.1
    refine h1.kq n38 (vi 2 (by decide) (by decide) (by decide) (by decide)) (vi 3 (by decide) (by decide) (by decide) (by decide)) (vi 18 (by decide) (by decide) (by decide) (by decide)) (vi 53 (by decide) (by decide) (by decide) (by decide)) (vi 54 (by decide) (by decide) (by decide) (by decide)) (vi 55 (by decide) (by decide) (by decide) (by decide)) f1 f4 f41 (by rw [ve.2.2.1]) (by rw [ve.2.2.1]) (vi 10 (by decide) (by decide) (by decide) (by decide)) (vi 11 (by decide) (by decide) (by decide) (by decide)) (vi 12 (by decide) (by decide) (by decide) (by decide)) (vi 14 (by decide) (by decide) (by decide) (by decide)) (vi 15 (by decide) (by decide) (by decide) (by decide)) (vi 17 (by decide) (by decide) (by decide) (by decide)) (vi 19 (by decide) (by decide) (by decide) (by decide)) ve.2.1 ?_ wpv
    unfold phI
    rw [n20, vi 17 (by decide) (by decide) (by decide) (by decide)]
    exact ⟨h1.2.2.2.2.2.2.1, h1.2.2.2.2.2.2.2.1⟩
  have v11 : v.i 11 = s.i 11 := ve.1 11 (by decide) (by decide) (by decide) (by decide)
  have v17 : v.i 17 = s.i 17 := ve.1 17 (by decide) (by decide) (by decide) (by decide)
  have phv : phI v = phI s := by
    unfold phI
    rw [n20, v17]
  have rwR : RWI R := h1.ri.pop2 (n := c1.1) (a := c1.2.1) c1s.2.1 tp.1 c1s.1 Rr.1 Ro Rr.2.1 (by show (R.i 53).toInt = _; omega) Rr.2.2.2.2 (by unfold sgI; rw [i34]; exact Int.le_refl _) (by unfold eI plI; rw [i43, i44]; exact Int.le_refl _)
  have evR : ENV d R v := by
    refine evv.gx (fun j q1 q2 q3 q4 q5 q6 q7 => ?_) ⟨Ra.1, Ra.2.1, Ra.2.2.2⟩ Rr.2.2.1 Rr.2.2.2.1 rwR ?_ (by rw [i21]; exact evv.t21)
    · exact Ri j q2 q3 q4
    · have z := evv.sj
      unfold SJB at *
      rw [i54, i55]
      omega
  -- the rows below
  have stR : STK R v (c :: L) (R.i 22).toInt (v.i 24).toInt (v.i 33).toInt := by
    have z := STK.e5 ve _ _ _ _ (STK.eo Rr.1 Ra.2.2.1 (c :: L) _ _ _ (fun y hy => ⟨eoL y hy, by rw [Rr.2.1]⟩) stl)
    rw [em, ee] at z
    rw [i22, n24, n33]
    refine z.hi (Int.le_refl _) ?_
    exact (c1s.2.2.2.2.2.2 ty).1
  have B2 : ∀ j : Nat, (j : Int) < (s.i 59).toInt → s.a 62 j = s.a 66 (ceT c1) → ∃ c' ∈ c :: L, (s.a 60 j).toInt = (ceG c' : Int) := fun j hj c0 => by
    obtain ⟨c', hc', g', l', _, -, p', -⟩ := h3.2.2.1 j hj c1 List.mem_cons_self ty c0
    rcases List.mem_cons.mp hc' with z | z
    · rw [z] at l'
      omega
    · exact ⟨c', z, p'.2.1⟩
  have wA : ∀ y ∈ c :: L, isGo (S.o y.2.1 0) → ∀ k : Nat, (s.a 60 k).toInt = (ceG y : Int) → (WTS σ0 k → ∃ q ∈ c :: L, isWl (S.o q.2.1 0) ∧ y.1 < q.1 ∧ s.a 57 ((ceW c1 : Int) - 1).toNat = s.a 66 (ceT q) ∧ ∀ z ∈ c :: L, q.1 < z.1 → ¬ isWl (S.o z.2.1 0)) ∧ (¬ WTS σ0 k → ∀ q ∈ c :: L, y.1 < q.1 → ¬ isWl (S.o q.2.1 0)) := fun y hy gy k hk => by
    have g1 := glb y hy
    have ny := nGo1 gy
    have my := List.mem_cons_of_mem c1 hy
    have e60 : σ0.a 60 = s.a 60 := σa 60 (by decide)
    have e58 : σ0.a 58 = s.a 58 := σa 58 (by decide)
    rcases wl with ⟨w, hw, w1, w2, w3⟩ | ⟨w1, w2, w3⟩
    · obtain ⟨⟨z1, z2⟩, -⟩ := stl.ty w hw w1
      have en : ((ceW c1 : Int) - 1).toNat = ceW w := by omega
      have mw := List.mem_cons_of_mem c1 hw
      refine ⟨fun ⟨q1, q2⟩ => ?_, fun nq q hq l wq => ?_⟩
      · rw [e60, e58, σi.2, en] at q2
        refine ⟨w, hw, w1, ?_, by rw [en, z1], w3⟩
        by_cases l1 : y.1 < w.1
        · exact l1
        · exfalso
          by_cases l2 : w.1 < y.1
          · have := (inj2 w mw y my l2).2.1
            omega
          · have e0 := inj1 y my w mw (by omega)
            rw [e0] at gy
            rcases w1 with t | t | t <;> rw [t] at gy <;> unfold isGo at gy <;> exact absurd gy (by decide)
      · have wq2 : ¬ w.1 < q.1 := fun z => w3 q hq z wq
        have l1 : y.1 < w.1 := by omega
        have := (inj2 y my w mw l1).2.1
        exact nq ⟨by rw [σi.2]; omega, by rw [e60, e58, σi.2, en]; omega⟩
    · refine ⟨fun ⟨q1, q2⟩ => ?_, fun _ q hq _ => w1 q hq⟩
      exfalso
      rw [σi.2] at q1
      rw [e60, e58, σi.2] at q2
      have en : ((ceW c1 : Int) - 1).toNat = ((b.i 56).toInt - 1).toNat := by omega
      have y1 := (tbw ((b.i 56).toInt - 1).toNat (by omega)).2
      have z3 := w3 (by omega)
      rw [en, y1] at q2
      omega
  have e66 : ∀ y ∈ c :: L, v.a 66 (ceT y) = s.a 66 (ceT y) := fun y _ => by rw [f66]
  have fbr : ∀ k : Nat, fBr σ0 k = fBr s k := fun k => by
    unfold fBr
    rw [σa 61 (by decide)]
  have p62 : ∀ k : Nat, ¬ s.a 62 k = s.a 66 (ceT c1) → v.a 62 k = s.a 62 k := fun k hk => by
    rw [va.2.2, rx.2.1 k (Or.inr (Or.inr (by rw [σa 62 (by decide)]; exact hk))), σa 62 (by decide)]
  have fl : ∀ f j : Nat, f = 50 ∨ f = 51 → v.a f j = s.a f j ∨ (v.a f j = 1 ∧ ∃ k : Nat, (k : Int) < (s.i 59).toInt ∧ s.a 62 k = s.a 66 (ceT c1) ∧ ¬ x2 = 0 ∧ ¬ WTS σ0 k ∧ (s.a 60 k).toInt = (j : Int) ∧ fBr s k = f) := fun f j hf => by
    have vf : v.a f = σ1.a f := by
      rcases hf with z | z <;> rw [z]
      · exact va.1
      · exact va.2.1
    rw [vf]
    rcases rx.2.2.2 f j hf with y | ⟨y1, k, y2, y3, y4, y5, y6, y7, y8⟩
    · left
      rw [y, σa f (by omega)]
    · rw [σi.1] at y3
      rw [σa 62 (by decide)] at y4
      rw [σa 60 (by decide)] at y7
      rw [fbr] at y8
      exact Or.inr ⟨y1, k, y3, y4, y5, y6, y7, y8⟩
  have jq : JMQ R v (c :: L) (b.i 59).toInt (b.i 29).toInt := by
    refine h3.rsv (W := WTS σ0) (wt := s.a 57 ((ceW c1 : Int) - 1).toNat) (x2 := x2) h18 ty ord (fun y hy z hz gy gz e0 => ?_) (fun y hy z hz e0 => inj1 y (List.mem_cons_of_mem _ hy) z (List.mem_cons_of_mem _ hz) e0) o14 wA eoL i54 i55 R52 e66 n59 f60 f61 p62 (fun k hk c0 => ?_) fl
    · have my := List.mem_cons_of_mem c1 hy
      have mz := List.mem_cons_of_mem c1 hz
      have ny := nGo1 gy
      have nz := nGo1 gz
      by_cases l1 : y.1 < z.1
      · have := (inj2 y my z mz l1).2.1
        omega
      · by_cases l2 : z.1 < y.1
        · have := (inj2 z mz y my l2).2.1
          omega
        · exact inj1 y my z mz (by omega)
    · rw [va.2.2]
      rcases rx.2.2.1 k (by omega) (by rw [σi.1]; exact hk) (by rw [σa 62 (by decide)]; exact c0) with y | ⟨y1, y2, y3⟩ | ⟨y1, y2, y3, y4⟩
      · exact Or.inl y
      · refine Or.inr (Or.inl ⟨y1, y2, ?_⟩)
        rw [y3, σa 57 (by decide), σi.2]
      · refine Or.inr (Or.inr ⟨y1, y2, y3, ?_⟩)
        rw [fbr, σa 60 (by decide)] at y4
        have f5 : fBr s k = 50 ∨ fBr s k = 51 := by
          unfold fBr
          by_cases z : s.a 61 k = 0
          · rw [if_pos z]; exact Or.inr rfl
          · rw [if_neg z]; exact Or.inl rfl
        rcases f5 with z | z
        · rw [z] at y4 ⊢
          rw [va.1]
          exact y4
        · rw [z] at y4 ⊢
          rw [va.2.1]
          exact y4
  have lb : LBC R v (c :: L) (-9) := LBC.mv (c :: L) (-9) h4.drop eoL (fun y _ _ => by rw [f46])
  have rte : RTE S R := by
    unfold RTE
    rw [i21, i54, i55, i44]
    exact ⟨Int.le_refl _, Int.le_refl _, Int.le_refl _⟩
  have cb : CBB B R := by
    obtain ⟨a1, a2, a3, a4, a5, a6, a7, a8, a9, a10, a11⟩ := h5
    refine ⟨fun k hk => by rw [Rr.1]; exact a1 k hk, fun k a hk ha => ?_, by omega, by rw [i22]; exact a4, fun k hk => by rw [Ra.2.2.1]; exact a5 k hk, by rw [i54]; exact a6, by rw [i55]; exact a7, fun k hk => ?_, fun k q1 q2 => ?_, ?_, i56.trans a11⟩
    · have z := a2 k a hk ha
      have e := Ro a (fun w => by
        rw [w] at ha
        have := h1.ri.2.1 k c1.1 c1.2.1 (by have := c1s.2.1; omega) c1s.2.1 ((a1 k hk).trans ha) c1s.1
        omega)
      exact ⟨e.trans z.1, by rw [Rr.2.1]; exact z.2⟩
    · obtain ⟨y1, y2⟩ := R52 k (by omega)
      by_cases cx : x2 = 0
      · rcases y2 cx with ⟨w1, -⟩ | ⟨-, w2⟩
        · have := w1.1
          omega
        · rw [w2]; exact a8 k hk
      · rw [y1 cx]; exact a8 k hk
    · rw [i55] at q2
      obtain ⟨y1, y2⟩ := R52 k q2
      by_cases cx : x2 = 0
      · rcases y2 cx with ⟨-, w2⟩ | ⟨-, w2⟩
        · exact Or.inl w2
        · rw [w2]; exact a9 k q1 q2
      · rw [y1 cx]; exact a9 k q1 q2
    · unfold RTE at *
      omega
  have wb : (b.i 56).toInt ≤ (ceW c1 : Int) := by
    have z := BO2.wl L c _ _ _ stl r3
    omega
  have id29 : (b.i 29).toInt ≤ (s.a 66 (ceT c1)).toInt := h3.2.2.2.2.1 c1 List.mem_cons_self ty
  have tbb : TBB b v := by
    obtain ⟨a1, a2, a3, p0, p1, p2, p3, p4, p5, p6, p7, p8, p9, p10⟩ := h7
    refine ⟨by rw [n38]; exact a1, by rw [n43]; exact a2, by omega, fun j hj => ?_, fun j hj => ?_, fun j hj => ?_, by rw [n59]; exact p3, fun j hj => ?_, by rw [n29]; exact p5, fun j hj => by rw [f30]; exact p6 j hj, by rw [n33]; exact p7, fun j hj => by rw [f34, f37]; exact p8 j hj, by rw [n24]; exact p9, fun j hj => by rw [f25, f27, f28]; exact p10 j hj⟩
    · rw [ve.2.2.1, f40, f41]
      exact p0 j hj
    · obtain ⟨y1, y2, y3, y4, y5, y6, y7, y8⟩ := p1 j hj
      have nf : ∀ f : Nat, f = 50 ∨ f = 51 → v.a f j = s.a f j := fun f hf => by
        rcases fl f j hf with y | ⟨-, k, k1, k2, -, -, k5, -⟩
        · exact y
        · exfalso
          obtain ⟨c', hc', e0⟩ := B2 k k1 k2
          have := glb c' hc'
          omega
      rw [f44, ve.2.2.1, f46, f47, nf 50 (Or.inl rfl), nf 51 (Or.inr rfl), f48, f49]
      exact ⟨y1, y2, y3, y4, y5, y6, y7, y8⟩
    · rw [f57, f58]
      exact p2 j hj
    · obtain ⟨y1, y2, y3⟩ := p4 j hj
      have w1 := hWb.2 j hj
      rw [f60, f61, p62 j (fun z => by
        rw [y3] at z
        rw [z] at w1
        omega)]
      exact ⟨y1, y2, y3⟩
  have iar : IAR R v := by
    obtain ⟨⟨a1, a2⟩, a3⟩ := h17
    unfold IAR
    rw [i56, Rr.1, n43, f44]
    refine ⟨⟨a1, a2⟩, fun z => ?_⟩
    obtain ⟨y1, y2, y3⟩ := a3 z
    exact ⟨by omega, y2, y3⟩
  have inj : ∀ y ∈ c :: L, isGo (S.o y.2.1 0) → ¬ ceG y = ceG c1 := fun y hy g z => by
    have := (inj2 y (List.mem_cons_of_mem _ hy) c1 List.mem_cons_self (ord y hy)).2.1
    have := nGo1 g
    omega
  have e5 : SSM S (c1 :: c :: L) = (nSg (S.o c1.2.1 0) : Int) + SSM S (c :: L) := rfl
  rw [e5] at hsg
  have hsw : (v.i 19).toInt = w0.toInt + SSM R (c :: L) := by
    rw [SSM.eo (c :: L) eoL, ve.1 19 (by decide) (by decide) (by decide) (by decide)]
    omega
  have hph : phI b + PDM R (c :: L) ≤ phI v := by
    rw [d2, phv]
    omega
  have cR : COR d B (RS.setI b 19 w0) t0 (c :: L) (-9) R v := by
    refine ⟨evR, stR, jq, lb, cb, ⟨?_, tbb, ⟨by rw [n20]; exact h8.1, fun j hj => by rw [f22]; exact h8.2 j hj⟩, ?_⟩, ⟨by rw [v11]; exact h10, hph, by rw [v17]; exact h12, hsw⟩, ⟨by rw [d1]; omega, fun y hy => ?_, fun y hy z hz l => ?_, ?_, fun y hy => ⟨fun t z => ?_, fun t z => ?_⟩⟩, ⟨by rw [i21, v11]; exact h14, by rw [n38, v11]; exact h15, by rw [i54, v11]; exact h16⟩, iar, h18, h19, h20, _, ((h21.drop inj).e5 ve).eo eoL⟩
    · intro j hj
      have z := h6 j hj
      rw [f64, f65, f66, f67, f68, f69, f70, f71, f72, f73, ve.2.2.1]
      exact z
    · rw [ve.1 2 (by decide) (by decide) (by decide) (by decide), ve.1 3 (by decide) (by decide) (by decide) (by decide), ve.1 8 (by decide) (by decide) (by decide) (by decide), f1, f4, ve.2.2.1]
      exact h9
    · rw [eoL y hy, i50]
      exact h13b.1 y (List.mem_cons_of_mem _ hy)
    · rw [eoL y hy, eoL z hz]
      exact h13b.2.1 y (List.mem_cons_of_mem _ hy) z (List.mem_cons_of_mem _ hz) l
    · have z := h13b.2.2.1
      have e3 : cfl S (c1 :: c :: L) (S.i 22).toInt = cfl S (c :: L) (if S.o c1.2.1 0 = 218 then (S.o c1.2.1 13).toInt else (S.i 22).toInt) := rfl
      rw [e3, if_neg n218] at z
      rw [cfl.eq (c :: L) _ eoL, i22]
      exact z
    · rw [eoL y hy] at t
      rw [f72] at z ⊢
      exact (h13b.2.2.2 y (List.mem_cons_of_mem _ hy)).1 t z
    · rw [eoL y hy] at t
      rw [f67] at z ⊢
      exact (h13b.2.2.2 y (List.mem_cons_of_mem _ hy)).2 t z
  have eoc := eoL c List.mem_cons_self
  have lwR : LOW R v c := by
    have w := lw.e5 ve
    unfold LOW at *
    rw [eoc]
    exact w
  have ng0 := nGo.eq ngo
  have tg := tp.2.1
  have l3 := lk.2.2.1
  have l2 := lk.2.1
  refine ⟨cR, ⟨R53, ?_, ?_⟩, MOD.rt lwR ?_ (v75.trans R36.symm) (by rw [R36]; exact hvv) (fun z1 z2 z3 => ?_)⟩
  · rw [n43, eoc]
    omega
  · rw [eoc]
    omega
  · rw [v63, eoc]
    omega
  · rw [eoc] at z1 z2 z3 ⊢
    rw [i50, o50]
    exact lk.2.2.2.2.2.2.2.1 z1 z2 z3
