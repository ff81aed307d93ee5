/-! reading: switch: its groups -/
/-- a switch's frame before a group -/
def GI (t : Nat) (s V : RS) (γ0 : Nat) (L : List Nat) (w : RS) : Prop := (INV w ∧ tpI w = t ∧ KP t V w ∧ PRL w) ∧ (w.i 19 = s.i 19 + 1 ∧ goI w = goI s + 1 ∧ w.i 52 = s.i 52 ∧ w.i 56 = s.i 56) ∧ (SNW V w ∧ RATE s w ∧ 2 * (enI w - enI s) + 2 ≤ fr w - fr s ∧ fr V + 2 ≤ fr w ∧ tkI s + 1 ≤ tkI w) ∧ (w.a 64 t = 14 ∧ (w.a 66 t).toInt = cdI V ∧ FQ w t L ∧ (w.i 75 = 1 → w.a 70 t = 1) ∧ w.a 71 t = s.i 38 ∧ (w.a 72 t).toInt = γ0) ∧ (cdI V + 1 ≤ cdI w ∧ w.a 21 (cdI V).toNat = 28 ∧ ENCH w (gv w 22 (cdI V).toNat) L ∧ (∀ j ∈ L, enI V ≤ (j : Int) ∧ (j : Int) < enI w ∧ cdI V + 1 ≤ gv w 26 j)) ∧ (w.a 44 γ0 = 1 ∧ gv w 47 γ0 = deI s ∧ ∃ M, ISCH w (hd w true γ0) M ∧ ∀ x ∈ M, cdI V + 1 ≤ (x : Int) ∧ (x : Int) < cdI w) ∧ (¬ 0 ≤ w.i 18 → TSX L (cdI V).toNat V w)
def G68 (t : Nat) (L : List Nat) (w : RS) : Prop := w.a 68 t = 0 ∨ ∃ j ∈ L, ¬ w.a 28 j = 0
theorem GI.tbl {t : Nat} {s V : RS} {γ0 : Nat} {L : List Nat} {w w' : RS} (h : GI t s V γ0 L w) (i : INV w') (tb : TBL w w') (k : KP t w w') (h19 : w'.i 19 = w.i 19) (h52 : w'.i 52 = w.i 52) (h75 : w'.i 75 = w.i 75) (tp : tpI w' = tpI w) (hf : fr w ≤ fr w') (tk : tkI w ≤ tkI w') (tk2 : tkI w' - tkI w ≤ fr w' - fr w) (loc : ∀ k : Nat, 64 ≤ k → k ≤ 73 → k ≠ 65 → k ≠ 68 → w'.a k t = w.a k t) : GI t s V γ0 L w' := by
  obtain ⟨⟨a1, a2, a3, a4⟩, ⟨b1, b2, b3, b4⟩, ⟨c1, c2, c3, c4, c5⟩, ⟨d1, d2, d3, d4, d5, d6⟩, ⟨e1, e2, e3, e4⟩, ⟨f1, f2, M, f3, f4⟩, g1⟩ := h
  have ecd := tb.cd
  refine ⟨⟨i, tp.trans a2, a3.tr k (Nat.le_refl _), a4.tbl tb⟩, ⟨h19.trans b1, tb.go.trans b2, h52.trans b3, (tb.2.2 56 (by omega) (by omega) (by omega) (by omega)).trans b4⟩, ⟨⟨by rw [tb.se, tb.sl]; exact c1.1, fun x x1 x2 => by rw [tb.g (by decide)]; exact c1.2 x x1 (by rw [tb.se] at x2; exact x2)⟩, c2.tr (tb.rate hf tk2), by rw [tb.en]; omega, by omega, by omega⟩, ⟨(loc 64 (by omega) (by omega) (by omega) (by omega)).trans d1, by rw [loc 66 (by omega) (by omega) (by omega) (by omega)]; exact d2, ?_, fun q => by rw [loc 70 (by omega) (by omega) (by omega) (by omega)]; exact d4 (h75.symm.trans q), (loc 71 (by omega) (by omega) (by omega) (by omega)).trans d5, by rw [loc 72 (by omega) (by omega) (by omega) (by omega)]; exact d6⟩, ⟨by omega, by rw [tb.1 21 (by omega)]; exact e2, ?_, fun j hj => ?_⟩, ⟨by rw [tb.1 44 (by omega)]; exact f1, by rw [tb.g (by decide)]; exact f2, M, by rw [tb.hd]; exact tb.isch f3, fun x hx => by rw [ecd]; exact f4 x hx⟩, fun z => (g1 (fun q => z (k.1.2 q))).tbl tb a1.tn (fun q => h75.trans q)⟩
  · unfold FQ at d3 ⊢
    rw [loc 67 (by omega) (by omega) (by omega) (by omega)]
    exact d3
  · rw [tb.g (by decide)]
    exact e3.of (fun j _ => tb.g (by decide) j)
  · rw [tb.en, tb.g (by decide)]
    exact e4 j hj
theorem GI.lx {t : Nat} {s V : RS} {γ0 : Nat} {L : List Nat} {w w' : RS} (h : GI t s V γ0 L w) (i : INV w') (x : LX w w') (h19 : w'.i 19 = w.i 19) (hf : fr w ≤ fr w') (tk : tkI w ≤ tkI w') (tk2 : tkI w' - tkI w ≤ fr w' - fr w) : GI t s V γ0 L w' := h.tbl i x.tbl ((KP.rf t w).lx x) h19 (x.2.2.1 52 (by omega) (by omega)) (x.2.2.1 75 (by omega) (by omega)) x.tp hf tk tk2 (fun k _ _ _ _ => by rw [x.1])
/-- before a group's statements -/
def GB (t : Nat) (s V B : RS) : Prop := KP t V B ∧ PRL B ∧ (B.i 19 = s.i 19 + 1 ∧ goI B = goI s + 1 ∧ B.i 52 = s.i 52 ∧ B.i 56 = s.i 56) ∧ SNW V B ∧ RATE s B ∧ tpI B = t
theorem GI.kpe {t : Nat} {s V : RS} {γ0 : Nat} {L : List Nat} {y : Int32} {u U : RS} (hg : GI t s V γ0 L u) (iV : INV V) (en : ENT t (cdI V).toNat L y u U) : KP t V U := by
  obtain ⟨⟨a1, a2, a3, a4⟩, ⟨b1, b2, b3, b4⟩, ⟨c1, c2, c3, c4, c5⟩, ⟨d1, d2, d3, d4, d5, d6⟩, ⟨e1, e2, e3, e4⟩, ⟨f1, f2, M, f3, f4⟩, g1⟩ := hg
  have cV := iV.cd
  exact a3.ent en (by rw [e2]; decide) (by omega) iV.2.2.2.2.2.2.1.1 (fun j hj => (e4 j hj).1)
theorem GI.gb {t : Nat} {s V : RS} {γ0 : Nat} {L : List Nat} {y : Int32} {u U B : RS} (hg : GI t s V γ0 L u) (iV : INV V) (en : ENT t (cdI V).toNat L y u U) (x : LX U B) (B19 : B.i 19 = U.i 19) (hsl : 2 * (enI u + 1 - enI s) + 2 ≤ fr B - fr s) (fB : fr u ≤ fr B) (tk2 : tkI B - tkI u ≤ fr B - fr u) : GB t s V B := by
  have kU := hg.kpe iV en
  obtain ⟨⟨a1, a2, a3, a4⟩, ⟨b1, b2, b3, b4⟩, ⟨c1, c2, c3, c4, c5⟩, ⟨d1, d2, d3, d4, d5, d6⟩, ⟨e1, e2, e3, e4⟩, ⟨f1, f2, M, f3, f4⟩, g1⟩ := hg
  have tb := x.tbl
  have i4 : ∀ j : Nat, 20 ≤ j → j ≠ 24 → B.i j = u.i j := fun j a b => (x.2.2.1 j (by omega) (by omega)).trans (en.1 j b)
  have g40 : ∀ j : Nat, gv B 40 j = gv u 40 j := fun j => (tb.g (by decide) j).trans (en.g (by decide) (by omega) (by decide) j)
  have ese : seI B = seI u := by unfold seI; rw [i4 38 (by omega) (by omega)]
  have esl : slI B = slI u := by unfold slI; rw [i4 42 (by omega) (by omega)]
  refine ⟨kU.lx x, (a4.ent en).tbl tb, ⟨B19.trans ((en.1 19 (by decide)).trans b1), tb.go.trans (en.go.trans b2), (i4 52 (by omega) (by omega)).trans b3, (i4 56 (by omega) (by omega)).trans b4⟩, ⟨by rw [ese, esl]; exact c1.1, fun z z1 z2 => by rw [g40]; exact c1.2 z z1 (by rw [ese] at z2; exact z2)⟩, ?_, x.tp.trans ((congrArg Int32.toInt (en.1 63 (by decide))).trans a2)⟩
  have ecd : cdI B = cdI u := tb.cd.trans en.cd
  have een : enI B = enI u + 1 := tb.en.trans en.2.1
  have q3 : trI B = trI u := by unfold trI; rw [i4 29 (by omega) (by omega)]
  have q4 : caI B = caI u := by unfold caI; rw [i4 33 (by omega) (by omega)]
  have q6 : peI B = peI u := by unfold peI; rw [i4 59 (by omega) (by omega)]
  unfold RATE at c2 ⊢
  rw [ecd, een, q3, q4, esl, q6]
  omega
theorem GI.snoc {t : Nat} {s V : RS} {γ0 : Nat} {L : List Nat} {y r : Int32} {u U B v w' : RS} (hg : GI t s V γ0 L u) (iV : INV V) (gV : goI V = goI s) (dV : V.i 52 = s.i 52) (g0 : (γ0 : Int) = goI s) (en : ENT t (cdI V).toNat L y u U) (x : LX U B) (iB : INV B) (hB : GB t s V B) (hsl : 2 * (enI u + 1 - enI s) + 2 ≤ fr B - fr s) (fB : fr u ≤ fr B) (tkB : tkI u ≤ tkI B) (hv : PCS t 3 B v) (hr : v.i 75 = 1 → r = 1) (hw : w' = (v.setA 70 t r).setA 65 t 2) : GI t s V γ0 (L ++ [(enI u).toNat]) w' := by
  obtain ⟨⟨a1, a2, a3, a4⟩, ⟨b1, b2, b3, b4⟩, ⟨c1, c2, c3, c4, c5⟩, ⟨d1, d2, d3, d4, d5, d6⟩, ⟨e1, e2, e3, e4⟩, ⟨f1, f2, M, f3, f4⟩, g1⟩ := hg
  obtain ⟨w1, w2, w3, w4, w5, w6, w7, w8, w9, w10, w11⟩ := hv
  obtain ⟨h1, h2, ⟨h3, h4, h5, h6⟩, h7, h8, h9'⟩ := hB
  have cV := iV.cd
  have ek : ((cdI V).toNat : Int) = cdI V := Int.toNat_of_nonneg cV.1
  have tb := x.tbl
  have eu0 : 0 ≤ enI u := a1.2.2.2.2.2.2.1.1
  have ee : ((enI u).toNat : Int) = enI u := Int.toNat_of_nonneg eu0
  have ecd : cdI B = cdI u := tb.cd.trans en.cd
  have een : enI B = enI u + 1 := tb.en.trans en.2.1
  have fv := w1.1.f0
  have fBf := iB.1.f0
  have no : ¬ u.a 21 (cdI V).toNat = 36 := by rw [e2]; decide
  have iw : w'.i = v.i := by rw [hw]; rfl
  have aw : ∀ k : Nat, k ≠ 65 → k ≠ 70 → w'.a k = v.a k := fun k p q => by rw [hw, setA_nk p, setA_nk q]
  have w70 : w'.a 70 t = r := by rw [hw, setA_nk (by decide)]; exact setA_at
  have tbw : TBL v w' := by rw [hw]; exact (TBL.loc v t r (by omega) (by omega)).tr (TBL.loc _ t 2 (by omega) (by omega))
  have kvw : KP t v w' := by rw [hw]; exact ((KP.rf t v).loc t r (by omega) (by omega) (Nat.le_refl _)).loc t 2 (by omega) (by omega) (Nat.le_refl _)
  have iiw : INV w' := by rw [hw]; exact (w1.loc t r (by omega) (by omega)).loc t 2 (by omega) (by omega)
  clear hw
  have lc : ∀ k : Nat, 64 ≤ k → k ≤ 73 → k ≠ 65 → k ≠ 70 → k ≠ 67 → w'.a k t = u.a k t := fun k p1 p2 p3 p4 p5 => by rw [aw k p3 p4, w11 k p1 p2 p3, x.1, en.2.2.2.1 k (by omega) (by omega) p5]
  have w67 : w'.a 67 t = U.a 67 t := by rw [aw 67 (by decide) (by decide), w11 67 (by omega) (by omega) (by omega), x.1]
  have kVv : KP t V v := h1.tr w3 (Nat.le_refl _)
  have fw : fr w' = fr v := by unfold fr; rw [iw]
  have tw : tkI w' = tkI v := by unfold tkI; rw [iw]
  have ew : enI w' = enI v := tbw.en
  have kc := w3.2.1
  have ke := w3.2.2.1
  have B21 : B.a 21 = u.a 21 := (tb.1 21 (by omega)).trans (en.2.2.2.1 21 (by decide) (by omega) (by decide))
  have hLu : ∀ j ∈ L, (j : Int) < enI u := fun j hj => (e4 j hj).2.1
  have rt : RATE s w' := by
    have := h8.tr w5
    have p1 := tbw.cd
    have p2 := tbw.en
    have p3 := tbw.tt
    have p4 := tbw.ca
    have p5 := tbw.sl
    have p6 := tbw.pe
    unfold RATE at this ⊢
    rw [p1, p2, p3, p4, p5, p6, fw, tw]
    exact this
  have w5' := w5
  unfold RATE at w5'
  refine ⟨⟨iiw, by rw [← w2]; unfold tpI; rw [iw], kVv.tr kvw (Nat.le_refl _), (h2.kp w3 w4.go).tbl tbw⟩, ⟨by rw [iw, w4.1]; exact h3, by rw [tbw.go, w4.go]; exact h4, by rw [iw, w4.2.2.1]; exact h5, by rw [iw, w4.2.2.2]; exact h6⟩, ⟨⟨by rw [tbw.se, tbw.sl]; exact (h7.tr w6 h1 w3).1, fun z z1 z2 => by rw [tbw.g (by decide)]; exact (h7.tr w6 h1 w3).2 z z1 (by rw [tbw.se] at z2; exact z2)⟩, rt, by rw [ew, fw]; omega, by omega, by omega⟩, ⟨(lc 64 (by omega) (by omega) (by omega) (by omega) (by omega)).trans d1, by rw [lc 66 (by omega) (by omega) (by omega) (by omega) (by omega)]; exact d2, ?_, fun q => by rw [w70]; exact hr (by rw [← iw]; exact q), (lc 71 (by omega) (by omega) (by omega) (by omega) (by omega)).trans d5, by rw [lc 72 (by omega) (by omega) (by omega) (by omega) (by omega)]; exact d6⟩, ⟨by rw [tbw.cd]; have := kc.1; omega, ?_, ?_, fun j hj => ?_⟩, ⟨?_, ?_, ?_⟩, fun z => ?_⟩
  · have q := en.fq eu0
    unfold FQ at q ⊢
    rw [w67]; exact q
  · rw [tbw.1 21 (by omega), kc.2.1 _ (by omega), B21]; exact e2
  · have e22 : gv w' 22 (cdI V).toNat = gv U 22 (cdI V).toNat := by
      rw [tbw.g (by decide)]
      unfold gv
      rw [kc.2.2.1 _ (by omega), x.1]
    rw [e22]
    refine en.2.2.2.2.2.2.2.2.2.2.2.of (fun j hj => ?_)
    rw [tbw.g (by decide)]
    have jlt : (j : Int) < enI B := by
      rcases List.mem_append.mp hj with q | q
      · have := hLu j q; omega
      · rcases List.mem_cons.mp q with q | q
        · omega
        · exact absurd q List.not_mem_nil
    unfold gv
    rw [ke.2.2.2.1 j jlt, x.1]
  · rw [ew, tbw.g (by decide)]
    have kV : enI V ≤ enI u := a3.2.2.1.1
    have := ke.1
    rcases List.mem_append.mp hj with q | q
    · obtain ⟨j1, j2, j3⟩ := e4 j q
      have e : gv v 26 j = gv u 26 j := by
        unfold gv
        rw [ke.2.2.1 j (by omega), x.1, en.2.2.2.2.2.2.2.1 26 j (by omega) (by omega) (by omega) (Or.inl (by decide))]
      rw [e]
      exact ⟨j1, by omega, j3⟩
    · rcases List.mem_cons.mp q with q | q
      · have e : gv v 26 j = cdI u := by
          rw [q]
          unfold gv
          rw [ke.2.2.1 _ (by omega), x.1, en.2.2.2.2.2.2.2.2.1]
          rfl
        rw [e]
        exact ⟨by omega, by omega, e1⟩
      · exact absurd q List.not_mem_nil
  · have kg := w3.2.2.2.2.2.2.1
    rw [tbw.1 44 (by omega), kg.2.1 γ0 (by omega), tb.1 44 (by omega), en.2.2.2.1 44 (by decide) (by omega) (by decide)]
    exact f1
  · have kg := w3.2.2.2.2.2.2.1
    rw [tbw.g (by decide)]
    unfold gv
    rw [kg.2.2.1 γ0 (by omega), tb.1 47 (by omega), en.2.2.2.1 47 (by decide) (by omega) (by decide)]
    exact f2
  · have iB' : ISCH B (hd B true γ0) M := by
      rw [tb.hd, en.hd]
      exact tb.isch (en.isch no f3)
    obtain ⟨L1, p1, p2⟩ := w3.2.2.2.2.2.2.2.1 γ0 true M (by omega) iB' (fun z hz => by have := f4 z hz; omega)
    refine ⟨L1 ++ M, by rw [tbw.hd]; exact tbw.isch p1, fun z hz => ?_⟩
    rw [tbw.cd]
    rcases List.mem_append.mp hz with q | q
    · have := p2 z q; omega
    · have := f4 z q; have := kc.1; omega
  · have z1 : ¬ 0 ≤ v.i 18 := fun q => z (kvw.1.2 q)
    have z2 : ¬ 0 ≤ u.i 18 := fun q => z1 (w3.1.2 (by rw [x.2.2.1 18 (by omega) (by omega), en.1 18 (by decide)]; exact q))
    have kg := h1.2.2.2.2.2.2.1
    have B44 : ¬ B.a 44 γ0 = 3 := by rw [tb.1 44 (by omega), en.2.2.2.1 44 (by decide) (by omega) (by decide), f1]; decide
    exact ((g1 z2).snoc en tb (w9 z1) w3 w4 a3 h1 (by omega) no iV.2.2.2.2.2.2.1.1 hLu h7 iV.2.2.2.1 a1.2.2.2.1 iB.2.2.2.1 (by omega) fBf.2 (h5.trans dV.symm) (fun rs hy => hy.push (γ0 := γ0) (by omega) (by omega) kg.2.1 kg.2.2.1 B44)).tbl tbw w1.tn (fun q => by rw [iw]; exact q)
