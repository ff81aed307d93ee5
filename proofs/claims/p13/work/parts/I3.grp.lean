section
/-! reading: switch: its groups -/
/-- a switch's frame before a group -/
def GI (t : Nat) (s V : RS) (γ0 : Nat) (L : List Nat) (w : RS) : Prop := (INV w ∧ tpI w = t ∧ KP t V w ∧ PRL w) ∧ (w.i 19 = s.i 19 + 1 ∧ goI w = goI s + 1 ∧ w.i 52 = s.i 52 ∧ w.i 56 = s.i 56) ∧ (SNW V w ∧ RATE s w ∧ 2 * (enI w - enI s) + 2 ≤ fr w - fr s ∧ fr V + 2 ≤ fr w ∧ tkI s + 1 ≤ tkI w) ∧ (w.a 64 t = 14 ∧ (w.a 66 t).toInt = cdI V ∧ FQ w t L ∧ (w.i 75 = 1 → w.a 70 t = 1) ∧ w.a 71 t = s.i 38 ∧ (w.a 72 t).toInt = γ0) ∧ (cdI V + 1 ≤ cdI w ∧ w.a 21 (cdI V).toNat = 28 ∧ ENCH w (gv w 22 (cdI V).toNat) L ∧ (∀ j ∈ L, enI V ≤ (j : Int) ∧ (j : Int) < enI w ∧ cdI V + 1 ≤ gv w 26 j)) ∧ (w.a 44 γ0 = 1 ∧ gv w 47 γ0 = deI s ∧ ∃ M, ISCH w (hd w true γ0) M ∧ ∀ x ∈ M, cdI V + 1 ≤ (x : Int) ∧ (x : Int) < cdI w) ∧ (¬ 0 ≤ w.i 18 → TSX L (cdI V).toNat V w)
def G68 (t : Nat) (L : List Nat) (w : RS) : Prop := w.a 68 t = 0 ∨ ∃ j ∈ L, ¬ w.a 28 j = 0
theorem GI.tbl {t : Nat} {s V : RS} {γ0 : Nat} {L : List Nat} {w w' : RS} (h : GI t s V γ0 L w) (i : INV w') (tb : TBL w w') (k : KP t w w') (h19 : w'.i 19 = w.i 19) (h52 : w'.i 52 = w.i 52) (h75 : w'.i 75 = w.i 75) (tp : tpI w' = tpI w) (hf : fr w ≤ fr w') (tk : tkI w ≤ tkI w') (tk2 : tkI w' - tkI w ≤ fr w' - fr w) (loc : ∀ k : Nat, 64 ≤ k → k ≤ 73 → k ≠ 65 → k ≠ 68 → w'.a k t = w.a k t) : GI t s V γ0 L w' := by
  obtain ⟨⟨a1, a2, a3, a4⟩, ⟨b1, b2, b3, b4⟩, ⟨c1, c2, c3, c4, c5⟩, ⟨d1, d2, d3, d4, d5, d6⟩, ⟨e1, e2, e3, e4⟩, ⟨f1, f2, M, f3, f4⟩, g1⟩ := h
  have ecd := tb.cd
  refine ⟨⟨i, tp.trans a2, a3.tr k (Nat.le_refl _), a4.tbl tb⟩, ⟨h19.trans b1, tb.go.trans b2, h52.trans b3, (tb.2.2 56 (by omega) (by omega) (by omega) (by omega)).trans b4⟩, ⟨⟨by rw [tb.se, tb.sl]; exact c1.1, fun x x1 x2 => by rw [tb.g (by decide)]; exact c1.2 x x1 (by rw [tb.se] at x2; exact x2)⟩, c2.tr (tb.rate hf tk2), by rw [tb.en]; omega, by omega, by omega⟩, ⟨(loc 64 (by omega) (by omega) (by omega) (by omega)).trans d1, by rw [loc 66 (by omega) (by omega) (by omega) (by omega)]; exact d2, ?_, fun q => by rw [loc 70 (by omega) (by omega) (by omega) (by omega)]; exact d4 (h75.symm.trans q), (loc 71 (by omega) (by omega) (by omega) (by omega)).trans d5, by rw [loc 72 (by omega) (by omega) (by omega) (by omega)]; exact d6⟩, ⟨by omega, by rw [tb.1 21 (by omega)]; exact e2, ?_, fun j hj => ?_⟩, ⟨by rw [tb.1 44 (by omega)]; exact f1, by rw [tb.g (by decide)]; exact f2, M, by rw [tb.hd]; exact tb.isch f3, fun x hx => by rw [ecd]; exact f4 x hx⟩, fun z => (g1 (fun q => z (k.1.2 q))).tbl tb a1.tn (fun q => h75.trans q)⟩
  · unfold FQ at d3 ⊢
    rw [loc 67 (by omega) (by omega) (by omega) (by omega)]
    exact d3
  · rw [tb.g (by decide)]
    exact e3.of (fun j _ => tb.g (by decide) j)
  · rw [tb.en, tb.g (by decide)]
    exact e4 j hj
theorem GI.lx {t : Nat} {s V : RS} {γ0 : Nat} {L : List Nat} {w w' : RS} (h : GI t s V γ0 L w) (i : INV w') (x : LX w w') (h19 : w'.i 19 = w.i 19) (hf : fr w ≤ fr w') (tk : tkI w ≤ tkI w') (tk2 : tkI w' - tkI w ≤ fr w' - fr w) : GI t s V γ0 L w' := h.tbl i x.tbl ((KP.rf t w).lx x) h19 (x.2.2.1 52 (by omega) (by omega)) (x.2.2.1 75 (by omega) (by omega)) x.tp hf tk tk2 (fun k _ _ _ _ => by rw [x.1])
/-- before a group's statements -/
def GB (t : Nat) (s V B : RS) : Prop := KP t V B ∧ PRL B ∧ (B.i 19 = s.i 19 + 1 ∧ goI B = goI s + 1 ∧ B.i 52 = s.i 52 ∧ B.i 56 = s.i 56) ∧ SNW V B ∧ RATE s B ∧ tpI B = t
theorem GI.kpe {t : Nat} {s V : RS} {γ0 : Nat} {L : List Nat} {y : Int32} {u U : RS} (hg : GI t s V γ0 L u) (iV : INV V) (en : ENT t (cdI V).toNat L y u U) : KP t V U := by
  obtain ⟨⟨a1, a2, a3, a4⟩, ⟨b1, b2, b3, b4⟩, ⟨c1, c2, c3, c4, c5⟩, ⟨d1, d2, d3, d4, d5, d6⟩, ⟨e1, e2, e3, e4⟩, ⟨f1, f2, M, f3, f4⟩, g1⟩ := hg
  have cV := iV.cd
  exact a3.ent en (by rw [e2]; decide) (by omega) iV.2.2.2.2.2.2.1.1 (fun j hj => (e4 j hj).1)
theorem GI.gb {t : Nat} {s V : RS} {γ0 : Nat} {L : List Nat} {y : Int32} {u U B : RS} (hg : GI t s V γ0 L u) (iV : INV V) (en : ENT t (cdI V).toNat L y u U) (x : LX U B) (B19 : B.i 19 = U.i 19) (hsl : 2 * (enI u + 1 - enI s) + 2 ≤ fr B - fr s) (fB : fr u ≤ fr B) (tk2 : tkI B - tkI u ≤ fr B - fr u) : GB t s V B := by
  have kU := hg.kpe iV en
  obtain ⟨⟨a1, a2, a3, a4⟩, ⟨b1, b2, b3, b4⟩, ⟨c1, c2, c3, c4, c5⟩, ⟨d1, d2, d3, d4, d5, d6⟩, ⟨e1, e2, e3, e4⟩, ⟨f1, f2, M, f3, f4⟩, g1⟩ := hg
  have tb := x.tbl
  have i4 : ∀ j : Nat, 20 ≤ j → j ≠ 24 → B.i j = u.i j := fun j a b => (x.2.2.1 j (by omega) (by omega)).trans (en.1 j b)
  have g40 : ∀ j : Nat, gv B 40 j = gv u 40 j := fun j => (tb.g (by decide) j).trans (en.g (by decide) (by omega) (by decide) j)
  have ese : seI B = seI u := by unfold seI; rw [i4 38 (by omega) (by omega)]
  have esl : slI B = slI u := by unfold slI; rw [i4 42 (by omega) (by omega)]
  refine ⟨kU.lx x, (a4.ent en).tbl tb, ⟨B19.trans ((en.1 19 (by decide)).trans b1), tb.go.trans (en.go.trans b2), (i4 52 (by omega) (by omega)).trans b3, (i4 56 (by omega) (by omega)).trans b4⟩, ⟨by rw [ese, esl]; exact c1.1, fun z z1 z2 => by rw [g40]; exact c1.2 z z1 (by rw [ese] at z2; exact z2)⟩, ?_, x.tp.trans ((congrArg Int32.toInt (en.1 63 (by decide))).trans a2)⟩
  have ecd : cdI B = cdI u := tb.cd.trans en.cd
  have een : enI B = enI u + 1 := tb.en.trans en.2.1
  have q3 : trI B = trI u := by unfold trI; rw [i4 29 (by omega) (by omega)]
  have q4 : caI B = caI u := by unfold caI; rw [i4 33 (by omega) (by omega)]
  have q6 : peI B = peI u := by unfold peI; rw [i4 59 (by omega) (by omega)]
  unfold RATE at c2 ⊢
  rw [ecd, een, q3, q4, esl, q6]
  omega
theorem GI.snoc {t : Nat} {s V : RS} {γ0 : Nat} {L : List Nat} {y r : Int32} {u U B v w' : RS} (hg : GI t s V γ0 L u) (iV : INV V) (gV : goI V = goI s) (dV : V.i 52 = s.i 52) (g0 : (γ0 : Int) = goI s) (en : ENT t (cdI V).toNat L y u U) (x : LX U B) (iB : INV B) (hB : GB t s V B) (hsl : 2 * (enI u + 1 - enI s) + 2 ≤ fr B - fr s) (fB : fr u ≤ fr B) (tkB : tkI u ≤ tkI B) (hv : PCS t 3 B v) (hr : v.i 75 = 1 → r = 1) (hw : w' = (v.setA 70 t r).setA 65 t 2) : GI t s V γ0 (L ++ [(enI u).toNat]) w' := by
  obtain ⟨⟨a1, a2, a3, a4⟩, ⟨b1, b2, b3, b4⟩, ⟨c1, c2, c3, c4, c5⟩, ⟨d1, d2, d3, d4, d5, d6⟩, ⟨e1, e2, e3, e4⟩, ⟨f1, f2, M, f3, f4⟩, g1⟩ := hg
  obtain ⟨w1, w2, w3, w4, w5, w6, w7, w8, w9, w10, w11⟩ := hv
  obtain ⟨h1, h2, ⟨h3, h4, h5, h6⟩, h7, h8, h9'⟩ := hB
  have cV := iV.cd
  have ek : ((cdI V).toNat : Int) = cdI V := Int.toNat_of_nonneg cV.1
  have tb := x.tbl
  have eu0 : 0 ≤ enI u := a1.2.2.2.2.2.2.1.1
  have ee : ((enI u).toNat : Int) = enI u := Int.toNat_of_nonneg eu0
  have ecd : cdI B = cdI u := tb.cd.trans en.cd
  have een : enI B = enI u + 1 := tb.en.trans en.2.1
  have fv := w1.1.f0
  have fBf := iB.1.f0
  have no : ¬ u.a 21 (cdI V).toNat = 36 := by rw [e2]; decide
  have iw : w'.i = v.i := by rw [hw]; rfl
  have aw : ∀ k : Nat, k ≠ 65 → k ≠ 70 → w'.a k = v.a k := fun k p q => by rw [hw, setA_nk p, setA_nk q]
  have w70 : w'.a 70 t = r := by rw [hw, setA_nk (by decide)]; exact setA_at
  have tbw : TBL v w' := by rw [hw]; exact (TBL.loc v t r (by omega) (by omega)).tr (TBL.loc _ t 2 (by omega) (by omega))
  have kvw : KP t v w' := by rw [hw]; exact ((KP.rf t v).loc t r (by omega) (by omega) (Nat.le_refl _)).loc t 2 (by omega) (by omega) (Nat.le_refl _)
  have iiw : INV w' := by rw [hw]; exact (w1.loc t r (by omega) (by omega)).loc t 2 (by omega) (by omega)
  clear hw
  have lc : ∀ k : Nat, 64 ≤ k → k ≤ 73 → k ≠ 65 → k ≠ 70 → k ≠ 67 → w'.a k t = u.a k t := fun k p1 p2 p3 p4 p5 => by rw [aw k p3 p4, w11 k p1 p2 p3, x.1, en.2.2.2.1 k (by omega) (by omega) p5]
  have w67 : w'.a 67 t = U.a 67 t := by rw [aw 67 (by decide) (by decide), w11 67 (by omega) (by omega) (by omega), x.1]
  have kVv : KP t V v := h1.tr w3 (Nat.le_refl _)
  have fw : fr w' = fr v := by unfold fr; rw [iw]
  have tw : tkI w' = tkI v := by unfold tkI; rw [iw]
  have ew : enI w' = enI v := tbw.en
  have kc := w3.2.1
  have ke := w3.2.2.1
  have B21 : B.a 21 = u.a 21 := (tb.1 21 (by omega)).trans (en.2.2.2.1 21 (by decide) (by omega) (by decide))
  have hLu : ∀ j ∈ L, (j : Int) < enI u := fun j hj => (e4 j hj).2.1
  have rt : RATE s w' := by
    have := h8.tr w5
    have p1 := tbw.cd
    have p2 := tbw.en
    have p3 := tbw.tt
    have p4 := tbw.ca
    have p5 := tbw.sl
    have p6 := tbw.pe
    unfold RATE at this ⊢
    rw [p1, p2, p3, p4, p5, p6, fw, tw]
    exact this
  have w5' := w5
  unfold RATE at w5'
  refine ⟨⟨iiw, by rw [← w2]; unfold tpI; rw [iw], kVv.tr kvw (Nat.le_refl _), (h2.kp w3 w4.go).tbl tbw⟩, ⟨by rw [iw, w4.1]; exact h3, by rw [tbw.go, w4.go]; exact h4, by rw [iw, w4.2.2.1]; exact h5, by rw [iw, w4.2.2.2]; exact h6⟩, ⟨⟨by rw [tbw.se, tbw.sl]; exact (h7.tr w6 h1 w3).1, fun z z1 z2 => by rw [tbw.g (by decide)]; exact (h7.tr w6 h1 w3).2 z z1 (by rw [tbw.se] at z2; exact z2)⟩, rt, by rw [ew, fw]; omega, by omega, by omega⟩, ⟨(lc 64 (by omega) (by omega) (by omega) (by omega) (by omega)).trans d1, by rw [lc 66 (by omega) (by omega) (by omega) (by omega) (by omega)]; exact d2, ?_, fun q => by rw [w70]; exact hr (by rw [← iw]; exact q), (lc 71 (by omega) (by omega) (by omega) (by omega) (by omega)).trans d5, by rw [lc 72 (by omega) (by omega) (by omega) (by omega) (by omega)]; exact d6⟩, ⟨by rw [tbw.cd]; have := kc.1; omega, ?_, ?_, fun j hj => ?_⟩, ⟨?_, ?_, ?_⟩, fun z => ?_⟩
  · have q := en.fq eu0
    unfold FQ at q ⊢
    rw [w67]; exact q
  · rw [tbw.1 21 (by omega), kc.2.1 _ (by omega), B21]; exact e2
  · have e22 : gv w' 22 (cdI V).toNat = gv U 22 (cdI V).toNat := by
      rw [tbw.g (by decide)]
      unfold gv
      rw [kc.2.2.1 _ (by omega), x.1]
    rw [e22]
    refine en.2.2.2.2.2.2.2.2.2.2.2.of (fun j hj => ?_)
    rw [tbw.g (by decide)]
    have jlt : (j : Int) < enI B := by
      rcases List.mem_append.mp hj with q | q
      · have := hLu j q; omega
      · rcases List.mem_cons.mp q with q | q
        · omega
        · exact absurd q List.not_mem_nil
    unfold gv
    rw [ke.2.2.2.1 j jlt, x.1]
  · rw [ew, tbw.g (by decide)]
    have kV : enI V ≤ enI u := a3.2.2.1.1
    have := ke.1
    rcases List.mem_append.mp hj with q | q
    · obtain ⟨j1, j2, j3⟩ := e4 j q
      have e : gv v 26 j = gv u 26 j := by
        unfold gv
        rw [ke.2.2.1 j (by omega), x.1, en.2.2.2.2.2.2.2.1 26 j (by omega) (by omega) (by omega) (Or.inl (by decide))]
      rw [e]
      exact ⟨j1, by omega, j3⟩
    · rcases List.mem_cons.mp q with q | q
      · have e : gv v 26 j = cdI u := by
          rw [q]
          unfold gv
          rw [ke.2.2.1 _ (by omega), x.1, en.2.2.2.2.2.2.2.2.1]
          rfl
        rw [e]
        exact ⟨by omega, by omega, e1⟩
      · exact absurd q List.not_mem_nil
  · have kg := w3.2.2.2.2.2.2.1
    rw [tbw.1 44 (by omega), kg.2.1 γ0 (by omega), tb.1 44 (by omega), en.2.2.2.1 44 (by decide) (by omega) (by decide)]
    exact f1
  · have kg := w3.2.2.2.2.2.2.1
    rw [tbw.g (by decide)]
    unfold gv
    rw [kg.2.2.1 γ0 (by omega), tb.1 47 (by omega), en.2.2.2.1 47 (by decide) (by omega) (by decide)]
    exact f2
  · have iB' : ISCH B (hd B true γ0) M := by
      rw [tb.hd, en.hd]
      exact tb.isch (en.isch no f3)
    obtain ⟨L1, p1, p2⟩ := w3.2.2.2.2.2.2.2.1 γ0 true M (by omega) iB' (fun z hz => by have := f4 z hz; omega)
    refine ⟨L1 ++ M, by rw [tbw.hd]; exact tbw.isch p1, fun z hz => ?_⟩
    rw [tbw.cd]
    rcases List.mem_append.mp hz with q | q
    · have := p2 z q; omega
    · have := f4 z q; have := kc.1; omega
  · have z1 : ¬ 0 ≤ v.i 18 := fun q => z (kvw.1.2 q)
    have z2 : ¬ 0 ≤ u.i 18 := fun q => z1 (w3.1.2 (by rw [x.2.2.1 18 (by omega) (by omega), en.1 18 (by decide)]; exact q))
    have kg := h1.2.2.2.2.2.2.1
    have B44 : ¬ B.a 44 γ0 = 3 := by rw [tb.1 44 (by omega), en.2.2.2.1 44 (by decide) (by omega) (by decide), f1]; decide
    exact ((g1 z2).snoc en tb (w9 z1) w3 w4 a3 h1 (by omega) no iV.2.2.2.2.2.2.1.1 hLu h7 iV.2.2.2.1 a1.2.2.2.1 iB.2.2.2.1 (by omega) fBf.2 (h5.trans dV.symm) (fun rs hy => hy.push (γ0 := γ0) (by omega) (by omega) kg.2.1 kg.2.2.1 B44)).tbl tbw w1.tn (fun q => by rw [iw]; exact q)
end
section
/-! reading: switch: its end -/
theorem PPL.lxb {γ0 : Nat} {Lb : List Nat} {xb : Int32} {Y : Nat → Prop} {u v W : RS} (h : PPL γ0 Lb xb Y v W) (x : LX u v) : PPL γ0 Lb xb Y u W := by
  obtain ⟨h1, h2, h3, h4, h6, h7, h8, h10⟩ := h
  have ec := x.tbl.cd
  have eg := x.tbl.go
  refine ⟨⟨fun k a b => (h1.1 k a b).trans (by rw [x.1]), h1.2.1.trans (by rw [x.2.1]), fun j a b c d e f => (h1.2.2 j a b c d e f).trans (x.2.2.1 j (by omega) (by omega))⟩, by omega, h3, by omega, ?_, fun k hk => ?_, fun k hk q => ?_, h10⟩
  · rw [x.tbl.hd] at h6
    exact h6.of (fun y _ => ⟨by rw [x.1], by rw [x.1]⟩)
  · have := h7 k (by omega)
    rw [x.1] at this
    exact this
  · have := h8 k (by omega) q
    rw [x.1] at this
    exact this
theorem GR9 {N : Nat} (hN : 4000 ≤ N) {m : Nat} {s A V w : RS} {t γ0 : Nat} {L : List Nat} {P : RS → Prop} (hI : INV s) (h9 : t < 998) (hF : ∀ u, FS' s u → P u) (kA : KP t s A) (cA : cdI A = cdI s + 1) (A21 : A.a 21 (cdI s).toNat = 1) (A38 : A.i 38 = s.i 38) (A52 : A.i 52 = s.i 52) (fA : fr s ≤ fr A) (te : ¬ 0 ≤ V.i 18 → TE A V) (k1 : KP t A V) (i1 : INV V) (d1 : V.i 52 = s.i 52) (f1 : fr A + 1 ≤ fr V) (gV : goI V = goI s) (V38 : V.i 38 = s.i 38) (g0 : (γ0 : Int) = goI s) (hg : GI t s V γ0 L w) (h68 : G68 t L w) (m1 : 1 ≤ m) (hC : ∀ (u : RS), PS t s u → fr w + 1 ≤ fr u → ok (f_X12_parse_10 N m u) P) : ok (((f_X12_shut N w 125).bind fun p21 => if ib (p21.2.a 66 t) 3000 then if ib (p21.2.a 72 t) 460 then (f_X12_patch N (RS.setA p21.2 23 ((p21.2.a 66 t).toNatClampNeg) (p21.2.i 20)) (p21.2.a 48 ((p21.2.a 72 t).toNatClampNeg)) (p21.2.i 20)).bind fun p25 => (if (p25.a 70 t) = 1 then (f_X12_over N (RS.setI (RS.setI p25 43 ((p25.i 43) - 1)) 38 (p25.a 71 t)) 1).bind fun p28 => f_X12_groups_335 N p28 else (if (p25.a 68 t) = 0 then (f_X12_over N (RS.setI (RS.setI p25 43 ((p25.i 43) - 1)) 38 (p25.a 71 t)) 1).bind fun p31 => f_X12_groups_335 N p31 else (if (p25.a 50 ((p21.2.a 72 t).toNatClampNeg)) = 0 then (f_X12_over N (RS.setI (RS.setI p25 43 ((p25.i 43) - 1)) 38 (p25.a 71 t)) 0).bind fun p34 => f_X12_groups_335 N p34 else (f_X12_over N (RS.setI (RS.setI p25 43 ((p25.i 43) - 1)) 38 (p25.a 71 t)) 1).bind fun p36 => f_X12_groups_335 N p36))) else none else none : Option RS).bind fun p => f_X12_parse_10 N m p) P := by
  have hN1 : 1000 ≤ N := by omega
  obtain ⟨⟨a1, a2, a3, a4⟩, ⟨b1, b2, b3, b4⟩, ⟨c1, c2, c3, c4, c5⟩, ⟨d1', d2, d3, d4, d5, d6⟩, ⟨e1, e2, e3, e4⟩, ⟨f1', f2, M, f3, f4⟩, g1⟩ := id hg
  obtain ⟨p, ep, x1, x2⟩ := SHO hN1 a1 125 (by decide)
  rw [ep]
  clear ep
  obtain ⟨w2, hw2⟩ : ∃ w2, w2 = p.2 := ⟨_, rfl⟩
  have cs := hI.cd
  have cV := i1.cd
  have cw := a1.cd
  have fw := a1.1.f0
  have gos := hI.2.2.2.2.2.2.2.2.2.2.2.1
  have ek : ((cdI V).toNat : Int) = cdI V := Int.toNat_of_nonneg cV.1
  show ok ((if ib (p.2.a 66 t) 3000 then if ib (p.2.a 72 t) 460 then (f_X12_patch N (RS.setA p.2 23 ((p.2.a 66 t).toNatClampNeg) (p.2.i 20)) (p.2.a 48 ((p.2.a 72 t).toNatClampNeg)) (p.2.i 20)).bind fun p25 => (if (p25.a 70 t) = 1 then (f_X12_over N (RS.setI (RS.setI p25 43 ((p25.i 43) - 1)) 38 (p25.a 71 t)) 1).bind fun p28 => f_X12_groups_335 N p28 else (if (p25.a 68 t) = 0 then (f_X12_over N (RS.setI (RS.setI p25 43 ((p25.i 43) - 1)) 38 (p25.a 71 t)) 1).bind fun p31 => f_X12_groups_335 N p31 else (if (p25.a 50 ((p.2.a 72 t).toNatClampNeg)) = 0 then (f_X12_over N (RS.setI (RS.setI p25 43 ((p25.i 43) - 1)) 38 (p25.a 71 t)) 0).bind fun p34 => f_X12_groups_335 N p34 else (f_X12_over N (RS.setI (RS.setI p25 43 ((p25.i 43) - 1)) 38 (p25.a 71 t)) 1).bind fun p36 => f_X12_groups_335 N p36))) else none else none : Option RS).bind fun p => f_X12_parse_10 N m p) P
  rw [← hw2] at x1 x2 ⊢
  clear hw2
  have ua := x1.1
  have k66 : (w2.a 66 t).toInt = ((cdI V).toNat : Int) := by rw [ua, d2, ek]
  have k72 : (w2.a 72 t).toInt = (γ0 : Int) := by rw [ua]; exact d6
  rw [if_pos (show ib (w2.a 66 t) 3000 from ⟨by omega, by omega⟩), if_pos (show ib (w2.a 72 t) 460 from ⟨by omega, by omega⟩), k_nat k66, k_nat k72]
  have h6w2 : ISCH w2 (hd w2 true γ0) M := by rw [x1.tbl.hd]; exact x1.tbl.isch f3
  obtain ⟨X, hX⟩ : ∃ X, X = w2.setA 23 (cdI V).toNat (w2.i 20) := ⟨_, rfl⟩
  have iX : X.i = w2.i := by rw [hX]; rfl
  have bX : X.b = w2.b := by rw [hX]; rfl
  have aX : ∀ k : Nat, k ≠ 23 → X.a k = w2.a k := fun k hk => by rw [hX]; exact setA_nk hk
  have X23 : ∀ j : Nat, j ≠ (cdI V).toNat → X.a 23 j = w2.a 23 j := fun j hj => by rw [hX]; exact setA_ne hj
  have X23c : X.a 23 (cdI V).toNat = w2.i 20 := by rw [hX]; exact setA_at
  have isX : ISCH X (w2.a 48 γ0).toInt M := h6w2.of (fun y _ => ⟨by rw [aX 21 (by decide)], by rw [aX 22 (by decide)]⟩)
  have ePT := p_pt (N := N) hN (σ := X) (site := w2.a 48 γ0) (w := w2.i 20) isX (fun x hx => by have := f4 x hx; omega)
  rw [← hX, ePT]
  clear hX
  obtain ⟨Q, hQ⟩ : ∃ Q, Q = PT (w2.i 20) M X := ⟨_, rfl⟩
  have iQ : Q.i = w2.i := by rw [hQ, PT.eI]; exact iX
  have bQ : Q.b = w2.b := by rw [hQ, PT.eB]; exact bX
  have aQ : ∀ k : Nat, k ≠ 22 → Q.a k = X.a k := fun k hk => by rw [hQ]; exact PT.eA hk
  have Q22 : ∀ j : Nat, Q.a 22 j = if j ∈ M then w2.i 20 else w2.a 22 j := fun j => by rw [hQ, PT.e22, aX 22 (by decide)]
  show ok ((if ((PT (w2.i 20) M X).a 70 t) = 1 then (f_X12_over N (RS.setI (RS.setI (PT (w2.i 20) M X) 43 (((PT (w2.i 20) M X).i 43) - 1)) 38 ((PT (w2.i 20) M X).a 71 t)) 1).bind fun p28 => some p28 else (if ((PT (w2.i 20) M X).a 68 t) = 0 then (f_X12_over N (RS.setI (RS.setI (PT (w2.i 20) M X) 43 (((PT (w2.i 20) M X).i 43) - 1)) 38 ((PT (w2.i 20) M X).a 71 t)) 1).bind fun p31 => some p31 else (if ((PT (w2.i 20) M X).a 50 γ0) = 0 then (f_X12_over N (RS.setI (RS.setI (PT (w2.i 20) M X) 43 (((PT (w2.i 20) M X).i 43) - 1)) 38 ((PT (w2.i 20) M X).a 71 t)) 0).bind fun p34 => some p34 else (f_X12_over N (RS.setI (RS.setI (PT (w2.i 20) M X) 43 (((PT (w2.i 20) M X).i 43) - 1)) 38 ((PT (w2.i 20) M X).a 71 t)) 1).bind fun p36 => some p36)) : Option RS).bind fun p => f_X12_parse_10 N m p) P
  rw [← hQ]
  clear hQ ePT
  have aQ' : ∀ k : Nat, k ≠ 22 → k ≠ 23 → Q.a k = w.a k := fun k p q => (aQ k p).trans ((aX k q).trans (by rw [ua]))
  have q71 : Q.a 71 t = s.i 38 := by rw [aQ' 71 (by decide) (by decide)]; exact d5
  obtain ⟨W, hW⟩ : ∃ W, W = RS.setI (RS.setI Q 43 ((Q.i 43) - 1)) 38 (Q.a 71 t) := ⟨_, rfl⟩
  have wa : W.a = Q.a := by rw [hW]; rfl
  have wb : W.b = w2.b := by rw [hW]; exact bQ
  have wi : ∀ j : Nat, j ≠ 38 → j ≠ 43 → W.i j = w2.i j := fun j h1 h2 => by rw [hW]; exact (if_neg h1).trans ((if_neg h2).trans (by rw [iQ]))
  have w38 : W.i 38 = s.i 38 := by rw [hW, ← q71]; rfl
  have gw2 : goI w2 = (γ0 : Int) + 1 := by have := x1.tbl.go; omega
  have w43 : goI W = γ0 := by
    have e : W.i 43 = w2.i 43 - 1 := by rw [hW, ← iQ]; rfl
    have e1' : (1 : Int32).toInt = 1 := by decide
    have g2' : (w2.i 43).toInt = (γ0 : Int) + 1 := gw2
    unfold goI
    rw [e, toInt_sub] <;> rw [e1'] <;> omega
  rw [← hW, aQ' 70 (by decide) (by decide), aQ' 68 (by decide) (by decide), aQ' 50 (by decide) (by decide)]
  clear hW
  have ecw2 : cdI w2 = cdI w := x1.tbl.cd
  have cW : cdI W = cdI w2 := by unfold cdI; rw [wi 20 (by decide) (by decide)]
  have ksV : KP t s V := kA.tr k1 (Nat.le_refl _)
  have ksw : KP t s w := ksV.tr a3 (Nat.le_refl _)
  have fin : ∀ x : Int32, (x = 0 ∨ x = 1) → (w.a 70 t = 1 → x = 1) → (w.a 68 t = 0 → x = 1) → (w.a 50 γ0 = 1 → x = 1) → ok (((f_X12_over N W x).bind fun p => some p).bind fun p => f_X12_parse_10 N m p) P := by
    intro x hx h1 h2 h3
    have i15 : W.i 15 = w2.i 15 := wi 15 (by decide) (by decide)
    rcases x2 with x2 | ⟨x2, x3, x4, x5, x6⟩
    · rw [e_over hx]
      refine lp_f (u := (W.setI 75 x).setI 63 (W.i 63 - 1)) (by show ¬ W.i 15 = 0; rw [i15]; exact x2) (hF _ (FS'.i63 (FS'.i75 (show FS' s W from ⟨by rw [i15]; exact x2, ⟨fun j hj => ?_, fun k hk => ?_, ?_⟩, ?_⟩) x hx) _)) m1
      · exact (wi j (by omega) (by omega)).trans ((x1.2.2.1 j (by omega) (by omega)).trans (ksw.1.1.1 j hj))
      · rw [wa, aQ' k (by omega) (by omega)]; exact ksw.1.1.2.1 k hk
      · rw [wb, x1.2.1]; exact ksw.1.1.2.2
      · rw [wi 75 (by decide) (by decide), x1.2.2.1 75 (by omega) (by omega)]; exact a1.r
    have hpp2 : PPL γ0 M (w2.i 20) (fun k => k = (cdI V).toNat) w2 W := by
      refine ⟨⟨fun k p q => by rw [wa, aQ' k (by omega) (by omega), ua], by rw [wb], fun j p q r _ _ _ => wi j q r⟩, by omega, w43, gw2, h6w2, fun k hk => ⟨by rw [wa, aQ 21 (by decide), aX 21 (by decide)], fun z => by rw [wa, aQ 23 (by decide), X23 k z]⟩, fun k hk q => by rw [wa, Q22, if_neg q], fun k hk => by rw [wa, Q22, if_pos hk]⟩
    have hpp := hpp2.lxb x1
    have tw := a1.2.2.2.1
    have tw2 : TAB w2 := tw.lx x1
    have seW : seI W = seI s := by unfold seI; rw [w38]
    have seV : seI V = seI s := by unfold seI; rw [V38]
    have kw18 : W.i 18 = w.i 18 := (wi 18 (by decide) (by decide)).trans (x1.2.2.1 18 (by omega) (by omega))
    have wf : ∀ k : Nat, 64 ≤ k → k ≤ 73 → bel k t w W := fun k p q j _ => by rw [wa, aQ' k (by omega) (by omega)]
    have kW : KP t s W := ksw.ppl hpp tw (by omega) (by omega) kw18 (fun k hk => by
      have := ksV.2.1.1
      rcases hk with q | q
      · have := f4 k q; omega
      · have q : k = (cdI V).toNat := q
        omega) wf
    have e19 : w2.i 19 = s.i 19 := by rw [x4, b1, Int32.add_sub_cancel]
    have slW : slI W = slI w2 := hpp2.1.sl
    have slw2 : slI w2 = slI w := x1.tbl.sl
    have ksl := ksw.2.2.2.2.2.1.2.1
    have kse := ksw.2.2.2.2.2.1.1
    have sew2 : seI w2 = seI w := x1.tbl.se
    have ra2 : RATE s w2 := c2.tr (x1.tbl.rate (by omega) (by omega))
    have iw2 : INV w2 := by
      have kk := ksw.lx x1
      refine ⟨x1.2.2.2.1, hI.2.1.kp kk, x2, tw2, ?_⟩
      have g : goI w2 = goI s + 1 := by omega
      have d : deI w2 = deI s := by unfold deI; rw [x1.2.2.1 52 (by omega) (by omega), b3]
      have wq : waI w2 = waI s := by unfold waI; rw [x1.2.2.1 56 (by omega) (by omega), b4]
      have oq : op w2 = op s := by unfold op; rw [e19]
      have k2 := kk.2.1.1
      have k3 := kk.2.2.1.1
      have k4 := kk.2.2.2.1.1
      have k5 := kk.2.2.2.2.1.1
      have k6 := kk.2.2.2.2.2.1.2.1
      have k7 := kk.2.2.2.2.2.1.1
      have k10 := kk.2.2.2.2.2.2.2.2.2.1.1
      have n1 := c1.1
      have hs := hI.2.2.2.2
      have l1 : slI V - slI s = slI V - slI s := rfl
      have kV := ksV.2.2.2.2.2.1.2.1
      unfold RATE at ra2
      unfold NUM at hs ⊢
      rw [g, d, wq, oq]
      omega
    refine LEND0 (x := x) h9 hx (fun u hu hfu => hC u hu (by omega)) hI hpp2.1 (hpp2.chn tw2) hpp2.2.1 (by omega) (by omega) kW iw2 (fun j _ j2 j3 _ => wi j j2 j3) (x1.tp.trans a2) (ksw.lx x1) e19 ((wi 52 (by decide) (by decide)).trans ((x1.2.2.1 52 (by omega) (by omega)).trans b3)) ((x1.2.2.1 56 (by omega) (by omega)).trans b4) (by omega) (SNW.eq w38 (by omega)) ra2 (by unfold RATE at ra2; omega) (by omega) (by omega) (fun q => ?_)
    have zw : ¬ 0 ≤ w.i 18 := fun z => q (by rw [x1.2.2.1 18 (by omega) (by omega)]; exact z)
    have zV : ¬ 0 ≤ V.i 18 := fun z => zw (a3.1.2 z)
    have hpp' : PPL γ0 M (w2.i 20) (fun k => k = (cdI V).toNat) w (W.setI 75 x) := by
      obtain ⟨h1', h2', h3', h4', h6', h7', h8', h10'⟩ := hpp
      exact ⟨⟨h1'.1, h1'.2.1, fun j a b c d e f => (if_neg f).trans (h1'.2.2 j a b c d e f)⟩, h2', h3', h4', h6', h7', h8', h10'⟩
    have hww : ∀ j : Nat, (j : Int) < waI w → gv w 58 j ≤ γ0 := fun j hj => by
      have kw := ksw.2.2.2.2.2.2.2.2.1
      have e1 : waI w = waI s := by unfold waI; rw [b4]
      have := (hI.2.2.2.1.2.2.2.2.2.2.2.2.1 j (by omega)).2.2.2
      have e : gv w 58 j = gv s 58 j := by unfold gv; rw [kw.2.2 j (by omega)]
      omega
    refine TS.groups (W := W.setI 75 x) hI kA cA A21 A38 A52 fA (te zV) k1 i1 d1 f1 gV V38 a3 (g1 zw) e2 e1 a1 g0 f1' f2 e3 e4 hpp' (fun k hk => (f4 k hk).1) (by show cdI W = cdI w; omega) (by show cdI w2 = cdI W; omega) (by show W.a 23 _ = _; rw [wa, aQ 23 (by decide)]; exact X23c) hww (fun q => h1 (d4 q)) h3 (fun all => ?_) (by show seI V ≤ seI W; omega) kw18 wf
    rcases h68 with h | ⟨j, j1, j2⟩
    · exact h2 h
    · exact absurd (all j j1) j2
  by_cases c70 : w.a 70 t = 1
  · rw [if_pos c70]
    exact fin 1 (Or.inr rfl) (fun _ => rfl) (fun _ => rfl) (fun _ => rfl)
  rw [if_neg c70]
  by_cases c68 : w.a 68 t = 0
  · rw [if_pos c68]
    exact fin 1 (Or.inr rfl) (fun _ => rfl) (fun _ => rfl) (fun _ => rfl)
  rw [if_neg c68]
  by_cases c50 : w.a 50 γ0 = 0
  · rw [if_pos c50]
    exact fin 0 (Or.inl rfl) (fun q => absurd q c70) (fun q => absurd q c68) (fun q => by rw [c50] at q; exact absurd q (by decide))
  rw [if_neg c50]
  exact fin 1 (Or.inr rfl) (fun _ => rfl) (fun _ => rfl) (fun _ => rfl)
end
section
/-! reading: switch: case by case -/
theorem GR3 {N b : Nat} (hN : 4000 ≤ N) (hl : 1 ≤ b → RUNL N (b - 1)) {m : Nat} {s V u U p : RS} {t γ0 : Nat} {L : List Nat} {y : Int32} {P : RS → Prop} (hI : INV s) (h9 : t < 998) (hb : 2 * (t : Int) ≤ fr s + 12 * op s + 2) (hc : 900 - fr s ≤ b) (hF : ∀ u, FS' s u → P u) (kV : KP t s V) (i1 : INV V) (d1 : V.i 52 = s.i 52) (fV : fr s + 3 ≤ fr V) (gV : goI V = goI s) (g0 : (γ0 : Int) = goI s) (hg : GI t s V γ0 L u) (h68 : ∀ r : RS, (∀ j : Nat, j ∈ L → r.a 28 j = u.a 28 j) → r.a 28 (enI u).toNat = y → r.a 68 t = u.a 68 t → G68 t (L ++ [(enI u).toNat]) r) (en : ENT t (cdI V).toNat L y u U) (x : LX U p) (ip : INV p) (p19 : p.i 19 = U.i 19) (hsl : 2 * (enI u + 1 - enI s) + 2 ≤ fr p - fr s) (fp : fr u ≤ fr p) (tk1 : tkI u ≤ tkI p) (tk2 : tkI p - tkI u ≤ fr p - fr u) (hn : 36000 + 40 ≤ (m : Int) + 40 * fr p) (hC : ∀ (m' : Nat) (w : RS), GI t s V γ0 (L ++ [(enI u).toNat]) w → G68 t (L ++ [(enI u).toNat]) w → w.a 65 t = 2 → fr p + 1 ≤ fr w → (m : Int) + 40 * fr p + 30 ≤ m' + 40 * fr w → ok (f_X12_parse_10 N (m' + 1) w) P) : ok (((f_X12_need N p 58).bind fun p54 => (f_X12_then N p54.2 3 1).bind fun p56 => some p56).bind fun p => f_X12_parse_10 N m p) P := by
  have hN1 : 1000 ≤ N := by omega
  have fpf := ip.1.f0
  have c4u := hg.2.2.1.2.2.2.1
  have kU := hg.kpe i1 en
  have tpU : tpI U = t := (congrArg Int32.toInt (en.1 63 (by decide))).trans hg.1.2.1
  have hLu : ∀ j ∈ L, (j : Int) < enI u := fun j hj => (hg.2.2.2.2.1.2.2.2 j hj).2.1
  have eu0 : 0 ≤ enI u := hg.1.1.2.2.2.2.2.2.1.1
  have ee : ((enI u).toNat : Int) = enI u := Int.toNat_of_nonneg eu0
  obtain ⟨q, eq, z1, z2⟩ := NDO hN1 ip 58 (by decide)
  rw [eq]
  clear eq
  show ok (((f_X12_then N q.2 3 1).bind fun p56 => some p56).bind fun p => f_X12_parse_10 N m p) P
  have xq : LX U q.2 := x.tr z1
  rw [p_th 3 1 (xq.tp.trans tpU) (by omega)]
  show ok (f_X12_parse_10 N m (TH q.2 t 3 1)) P
  rcases z2 with z2 | ⟨z2, z3, z4, z5, z6, z7⟩
  · exact lp_f (u := TH q.2 t 3 1) z2 (hF _ (FS'.th (FS'.of (kV.tr kU (Nat.le_refl _)).1.1 xq z2 (by rw [en.1 75 (by decide)]; exact hg.1.1.r)))) (by omega)
  obtain ⟨B, hB⟩ : ∃ B, B = q.2 := ⟨_, rfl⟩
  rw [← hB] at z1 z2 z4 z5 z6 z7 xq ⊢
  clear hB
  have fBf := z4.1.f0
  have gb : GB t s V B := hg.gb i1 en xq (z5.trans p19) (by omega) (by omega) (by omega)
  obtain ⟨h1, h2, ⟨h3, h4, h5, h6⟩, h7, h8, h9'⟩ := id gb
  have oB : op B = op s + 1 := by
    have o1 := z4.op
    have o2 := hI.op
    have e1 : (1 : Int32).toInt = 1 := by decide
    have a : op B = (B.i 19).toInt := rfl
    have b : op s = (s.i 19).toInt := rfl
    rw [a, h3, toInt_add] <;> rw [e1] <;> omega
  refine CALLL (hl (by omega)) z4 h2 h9' (by omega) (by omega) (by omega) (by omega) (fun r hr => hF r (FS'.kp (kV.tr h1 (Nat.le_refl _)) hr)) (fun m2 v hv _ hm => ?_)
  obtain ⟨w1, w2, w3, w4, w5, w6, w7, w8, w9, w10, w11⟩ := id hv
  have fv := w1.1.f0
  obtain ⟨m3, rfl⟩ : ∃ m3, m2 = m3 + 1 := ⟨m2 - 1, by omega⟩
  have push3 : ((m3 + 1 : Nat) : Int) = (m3 : Int) + 1 := by omega
  rw [push3] at hm
  have l64 : v.a 64 t = 14 := by rw [w11 64 (by omega) (by omega) (by omega), xq.1, en.2.2.2.1 64 (by decide) (by omega) (by decide)]; exact hg.2.2.2.1.1
  refine lp_14 w2 (by omega) w1.2.2.1 l64 ?_
  unfold f_X12_groups
  rw [if_pos (tp_ib w2 (by omega)), tp_nat w2, if_neg (by rw [w10]; decide), if_neg (by rw [w10]; decide), if_neg (by rw [w10]; decide)]
  have s70 : ∃ r : Int32, (if (v.i 75) = 0 then f_X12_groups_356 N (RS.setA v 70 t 0) (v.i 63) else f_X12_groups_356 N (RS.setA v 70 t 1) (v.i 63)) = some ((v.setA 70 t r).setA 65 t 2) ∧ (v.i 75 = 1 → r = 1) := by
    unfold f_X12_groups_356
    by_cases c : v.i 75 = 0
    · rw [if_pos c, if_pos (tp_ib w2 (by omega)), tp_nat w2]; exact ⟨0, rfl, fun q => by rw [c] at q; exact absurd q (by decide)⟩
    · rw [if_neg c, if_pos (tp_ib w2 (by omega)), tp_nat w2]; exact ⟨1, rfl, fun _ => rfl⟩
  obtain ⟨r, er, hr⟩ := s70
  rw [er]
  show ok (f_X12_parse_10 N m3 ((v.setA 70 t r).setA 65 t 2)) P
  obtain ⟨w, hw⟩ : ∃ w, w = (v.setA 70 t r).setA 65 t 2 := ⟨_, rfl⟩
  have gw : GI t s V γ0 (L ++ [(enI u).toNat]) w := hg.snoc i1 gV d1 g0 en xq z4 gb (by omega) (by omega) (by omega) hv hr hw
  have w65 : w.a 65 t = 2 := by rw [hw]; exact setA_at
  have fw : fr w = fr v := by rw [hw]; rfl
  have ke := w3.2.2.1
  have enB : enI B = enI u + 1 := xq.tbl.en.trans en.2.1
  have w28 : ∀ j : Nat, (j : Int) < enI B → w.a 28 j = U.a 28 j := fun j hj => by rw [hw, setA_nk (by decide), setA_nk (by decide), ke.2.2.2.2 j hj, xq.1]
  have w68 : w.a 68 t = u.a 68 t := by rw [hw, setA_nk (by decide), setA_nk (by decide), w11 68 (by omega) (by omega) (by omega), xq.1, en.2.2.2.1 68 (by decide) (by omega) (by decide)]
  have g68 : G68 t (L ++ [(enI u).toNat]) w := by
    refine h68 w (fun j hj => ?_) ?_ w68
    · have := hLu j hj
      rw [w28 j (by omega), en.2.2.2.2.2.2.2.1 28 j (by omega) (by omega) (by omega) (Or.inl (by decide))]
    · rw [w28 _ (by omega)]; exact en.2.2.2.2.2.2.2.2.2.2.1
  rw [← hw]
  clear hw
  obtain ⟨m4, rfl⟩ : ∃ m4, m3 = m4 + 1 := ⟨m3 - 1, by omega⟩
  have push4 : ((m4 + 1 : Nat) : Int) = (m4 : Int) + 1 := by omega
  rw [push4] at hm
  exact hC m4 w gw g68 w65 (by omega) (by omega)
theorem GR2 {N b : Nat} (hN : 4000 ≤ N) (hl : 1 ≤ b → RUNL N (b - 1)) {s A V : RS} {t γ0 : Nat} {P : RS → Prop} {B0 : Int} (hI : INV s) (h9 : t < 998) (hb : 2 * (t : Int) ≤ fr s + 12 * op s + 2) (hc : 900 - fr s ≤ b) (hF : ∀ u, FS' s u → P u) (kA : KP t s A) (cA : cdI A = cdI s + 1) (A21 : A.a 21 (cdI s).toNat = 1) (A38 : A.i 38 = s.i 38) (A52 : A.i 52 = s.i 52) (fA : fr s + 2 ≤ fr A) (te : ¬ 0 ≤ V.i 18 → TE A V) (k1 : KP t A V) (i1 : INV V) (d1 : V.i 52 = s.i 52) (f1 : fr A + 1 ≤ fr V) (gV : goI V = goI s) (V38 : V.i 38 = s.i 38) (g0 : (γ0 : Int) = goI s) (hC : ∀ (m : Nat) (u : RS), PS t s u → fr s + 1 ≤ fr u → B0 ≤ m + 40 * fr u → ok (f_X12_parse_10 N m u) P) : ∀ (d m : Nat) (L : List Nat) (w : RS), GI t s V γ0 L w → G68 t L w → w.a 65 t = 2 → 900 - fr w < d → 36000 + 60 ≤ (m : Int) + 40 * fr w → B0 ≤ (m : Int) + 40 * fr w → ok (f_X12_parse_10 N (m + 1) w) P
  | 0, m, L, w, hg, h68, w65, hd, hm, hB => by
    have := hg.1.1.1.f0
    omega
  | d + 1, m, L, w, hg, h68, w65, hd, hm, hB => by
    have hN1 : 1000 ≤ N := by omega
    have ih := GR2 hN hl hI h9 hb hc hF kA cA A21 A38 A52 fA te k1 i1 d1 f1 gV V38 g0 hC d
    obtain ⟨⟨a1, a2, a3, a4⟩, ⟨b1, b2, b3, b4⟩, ⟨c1, c2, c3, c4, c5⟩, ⟨d1', d2, d3, d4, d5, d6⟩, ⟨e1, e2, e3, e4⟩, ⟨f1', f2, M, f3, f4⟩, g1⟩ := id hg
    have fw := a1.1.f0
    have cV := i1.cd
    have cw := a1.cd
    have ek : ((cdI V).toNat : Int) = cdI V := Int.toNat_of_nonneg cV.1
    have ksV : KP t s V := kA.tr k1 (Nat.le_refl _)
    have ksw : KP t s w := ksV.tr a3 (Nat.le_refl _)
    have ibx : ib (w.i 63) 1000 := tp_ib a2 (by omega)
    have nx : (w.i 63).toNatClampNeg = t := tp_nat a2
    have hns := hI.2.2.2.2.2.2.1
    have hnw := a1.2.2.2.2.2.2.1
    refine lp_14 a2 (by omega) a1.2.2.1 d1' ?_
    unfold f_X12_groups
    rw [if_pos ibx, nx, if_neg (by rw [w65]; decide), if_neg (by rw [w65]; decide), if_pos w65]
    by_cases t1 : w.i 10 = 429
    · rw [if_pos t1]
      obtain ⟨w1, ew, y1, y2, y3, y4, y5, y6, y7⟩ := NX hN1 a1 (by rw [t1]; decide)
      have y7 := y7 (Or.inl (by rw [t1]; decide))
      rw [ew]
      have gw1 : GI t s V γ0 L w1 := hg.lx y4 y1 y3 (by omega) (by omega) (by omega)
      have e1n : enI w1 = enI w := y1.tbl.en
      obtain ⟨p, ep, hp⟩ := CASEN (L := L) (c0 := (cdI V).toNat) hN1 y4 ibx nx (by rw [gw1.2.2.2.1.2.1, ek]) (by omega) gw1.2.2.2.1.2.2.1 gw1.2.2.2.2.1.2.2.1 (fun j hj => (gw1.2.2.2.2.1.2.2.2 j hj).2.1) (by rw [gw1.2.2.2.2.1.2.1]; decide) (by omega)
      show ok (((f_X12_caseNumber N w1 (w.i 63)).bind fun p51 => (if p51.1 = 0 then some p51.2 else (f_X12_need N p51.2 58).bind fun p54 => (f_X12_then N p54.2 3 1).bind fun p56 => some p56)).bind fun p => f_X12_parse_10 N m p) P
      rw [ep]
      show ok ((if p.1 = 0 then some p.2 else (f_X12_need N p.2 58).bind fun p54 => (f_X12_then N p54.2 3 1).bind fun p56 => some p56 : Option RS).bind fun p => f_X12_parse_10 N m p) P
      rcases hp with ⟨p1, p2, p3⟩ | ⟨p1, u, U, u1, u2, u3, u4, u5, u6, u7, u8, u9, u10, u11, u12, u13⟩
      · rw [if_pos p1]
        exact lp_f p2 (hF _ (FS'.of ksw.1.1 (y1.tr p3) p2 a1.r)) (by omega)
      rw [if_neg (by rw [p1]; decide)]
      have gu : GI t s V γ0 L u := gw1.lx u2 u1 u3 u4 u5 u6
      have fU : fr U = fr u := by unfold fr; rw [u7.1 11 (by decide)]
      have tU : tkI U = tkI u := by unfold tkI; rw [u7.1 17 (by decide)]
      have eun : enI u = enI w1 := u1.tbl.en
      refine GR3 hN hl hI h9 hb hc hF ksV i1 d1 (by omega) gV g0 gu (fun r r1 r2 r3 => ?_) u7 u8 u10 u11 (by omega) (by omega) (by omega) (by omega) (by omega) (fun m' w' q1 q2 q3 q4 q5 => ih m' _ w' q1 q2 q3 (by omega) (by omega) (by omega))
      have au : u.a = w.a := by rw [u1.1, y1.1]
      rw [au] at r1 r3
      rcases h68 with h | ⟨j, j1, j2⟩
      · left; rw [r3]; exact h
      · right; exact ⟨j, List.mem_append_left _ j1, by rw [r1 j j1]; exact j2⟩
    rw [if_neg t1]
    by_cases t2 : w.i 10 = 430
    · rw [if_pos t2]
      by_cases c68 : w.a 68 t = 1
      · rw [if_pos c68]
        obtain ⟨S, eS, r1, r2, r3⟩ := p_fl (N := N) a1.1 4 (w.i 11) (by decide)
        rw [eS]
        exact lp_f (u := S) r2 (hF _ (FS'.of ksw.1.1 r1 r2 a1.r)) (by omega)
      rw [if_neg c68]
      obtain ⟨u, hu⟩ : ∃ u, u = w.setA 68 t 1 := ⟨_, rfl⟩
      have iu : INV u := by rw [hu]; exact a1.loc t 1 (by omega) (by omega)
      have tbu : TBL w u := by rw [hu]; exact TBL.loc w t 1 (by omega) (by omega)
      have iiu : u.i = w.i := by rw [hu]; rfl
      have au : ∀ k : Nat, k ≠ 68 → u.a k = w.a k := fun k hk => by rw [hu]; exact setA_nk hk
      have kwu : KP t w u := by rw [hu]; exact (KP.rf t w).loc t 1 (by omega) (by omega) (Nat.le_refl _)
      have fu : fr u = fr w := by unfold fr; rw [iiu]
      have tu : tkI u = tkI w := by unfold tkI; rw [iiu]
      have gu : GI t s V γ0 L u := hg.tbl iu tbu kwu (by rw [iiu]) (by rw [iiu]) (by rw [iiu]) (by unfold tpI; rw [iiu]) (by omega) (by omega) (by omega) (fun k _ _ _ k4 => by rw [au k k4])
      rw [← hu]
      clear hu
      have eun : enI u = enI w := tbu.en
      obtain ⟨U, eU, en⟩ := p_en (N := N) (u := u) (L := L) (c0 := (cdI V).toNat) 0 1 ibx nx (by omega) (by omega) (by rw [gu.2.2.2.1.2.1, ek]) (by omega) gu.2.2.2.1.2.2.1 gu.2.2.2.2.1.2.2.1 (fun j hj => (gu.2.2.2.2.1.2.2.2 j hj).2.1)
      rw [eU]
      have iU : INV U := iu.ent en (by rw [gu.2.2.2.2.1.2.1]; decide) (fun j hj => (gu.2.2.2.2.1.2.2.2 j hj).2.1) (by omega)
      obtain ⟨p, ep, y1, y2, y3, y4, y5, y6, y7⟩ := NX hN1 iU (by rw [en.1 10 (by decide), iiu, t2]; decide)
      have y7 := y7 (Or.inl (by rw [en.1 10 (by decide), iiu, t2]; decide))
      have fU : fr U = fr u := by unfold fr; rw [en.1 11 (by decide)]
      have tU : tkI U = tkI u := by unfold tkI; rw [en.1 17 (by decide)]
      show ok (((f_X12_next N U).bind fun p41 => (f_X12_need N p41 58).bind fun p43 => (f_X12_then N p43.2 3 1).bind fun p45 => some p45).bind fun p => f_X12_parse_10 N m p) P
      rw [ep]
      show ok (((f_X12_need N p 58).bind fun p43 => (f_X12_then N p43.2 3 1).bind fun p45 => some p45).bind fun p => f_X12_parse_10 N m p) P
      refine GR3 hN hl hI h9 hb hc hF ksV i1 d1 (by omega) gV g0 gu (fun r r1 r2 r3 => Or.inr ⟨_, List.mem_append_right _ (List.mem_cons_self ..), by rw [r2]; decide⟩) en y1 y4 y3 (by omega) (by omega) (by omega) (by omega) (by omega) (fun m' w' q1 q2 q3 q4 q5 => ih m' _ w' q1 q2 q3 (by omega) (by omega) (by omega))
    rw [if_neg t2]
    exact GR9 hN hI h9 hF kA cA A21 A38 A52 (by omega) te k1 i1 d1 f1 gV V38 g0 hg h68 (by omega) (fun u hu hf => hC m u hu (by omega) (by omega))
end
section
/-! reading: switch: its head -/
theorem INV.go {u : RS} {w : Int32} {n : Int64} (h : INV u) (h2 : 2 * (goI u + 1) ≤ fr u) : INV (GO u w n) := by
  obtain ⟨x1, x2, x3, x4, x5⟩ := h
  have g := x5.2.2.2.2.2.2.2.1
  have d := x5.2.2.2.2.2.2.2.2.1
  have hf := x1.f0
  have eg := GO.eGO (u := u) (w := w) (n := n) g.1 (by omega)
  have ei : ∀ j : Nat, j ≠ 43 → (GO u w n).i j = u.i j := fun j hj => GO.eI hj
  have ea : ∀ k : Nat, k < 44 → (GO u w n).a k = u.a k := fun k hk => GO.eA (Or.inl hk)
  have tX := x4.go (w := w) (n := n) g.1 (by omega) d.1
  have bX : (GO u w n).b 9 = u.b 9 := rfl
  generalize GO u w n = X at *
  refine ⟨x1.of (ei 2 (by decide)) (ei 10 (by decide)) (ei 11 (by decide)) (ei 12 (by decide)) (ei 14 (by decide)) bX, RB.of (ei 2 (by decide)) (ei 3 (by decide)) (ea 4 (by decide)) (ea 6 (by decide)) (ea 7 (by decide)) x2, (ei 15 (by decide)).trans x3, tX, ?_⟩
  have e1 := op_of (ei 19 (by decide))
  have e2 : cdI X = cdI u := by unfold cdI; rw [ei 20 (by decide)]
  have e0 : enI X = enI u := by unfold enI; rw [ei 24 (by decide)]
  have e3 : trI X = trI u := by unfold trI; rw [ei 29 (by decide)]
  have e4 : caI X = caI u := by unfold caI; rw [ei 33 (by decide)]
  have e5 : seI X = seI u := by unfold seI; rw [ei 38 (by decide)]
  have e6 : slI X = slI u := by unfold slI; rw [ei 42 (by decide)]
  have e8 : deI X = deI u := by unfold deI; rw [ei 52 (by decide)]
  have e9 : waI X = waI u := by unfold waI; rw [ei 56 (by decide)]
  have e10 : peI X = peI u := by unfold peI; rw [ei 59 (by decide)]
  have e11 : fr X = fr u := by unfold fr; rw [ei 11 (by decide)]
  have e12 : tkI X = tkI u := by unfold tkI; rw [ei 17 (by decide)]
  unfold NUM at x5 ⊢
  rw [e1, e2, e0, e3, e4, e5, e6, eg, e8, e9, e10, e11, e12]
  omega
theorem PRL.go {u : RS} {w : Int32} {n : Int64} (h : PRL u) (h0 : 0 ≤ goI u) (h4 : goI u < 460) (hw : ¬ w = 2) : PRL (GO u w n) := by
  have eg := GO.eGO (u := u) (w := w) (n := n) h0 h4
  have gn := gN h0
  have lo : ∀ (k j : Nat), j ≠ (u.i 43).toNatClampNeg → (GO u w n).a k j = u.a k j := fun k j hj => GO.lo hj
  have v44 : (GO u w n).a 44 (u.i 43).toNatClampNeg = w := GO.a44
  generalize GO u w n = X at *
  refine ⟨fun γ a1 a2 a3 => ?_, fun γ a1 => ?_⟩
  · by_cases e : γ = (u.i 43).toNatClampNeg
    · subst e
      rw [v44] at a2
      exact absurd a2 hw
    · have e1 := a1.1
      have au : ACC u γ := ⟨by omega, by rw [← lo 44 γ e]; exact a1.2.1, fun δ d1 d2 => by rw [← lo 44 δ (by omega)]; exact a1.2.2 δ d1 (by omega)⟩
      have e46 : gv X 46 γ = gv u 46 γ := by unfold gv; rw [lo 46 γ e]
      rw [e46] at a3 ⊢
      obtain ⟨l1, l2, l3⟩ := h.1 γ au (by rw [← lo 44 γ e]; exact a2) a3
      exact ⟨l1, by omega, by rw [lo 44 _ (by omega)]; exact l3⟩
  · have := (a1.2 (u.i 43).toNatClampNeg (by have := a1.1; omega) (by omega)).1
    rw [v44] at this
    exact absurd this hw
theorem run_groups {N b : Nat} (hN : 4000 ≤ N) (hx : 1 ≤ b → RUNE N 16 4 11 24 (b - 1)) (hl : 1 ≤ b → RUNL N (b - 1)) : RUNU N b 14 (fun x => x = 428) := by
  intro n s u t P hI hp ht hu tu u15 hT hz h9 hb hc hn n1 hF hC
  have hN1 : 1000 ≤ N := by omega
  have hf := hI.1.f0
  have cs := hI.cd
  have hpl : PRL s := hp.prl (by rw [hT]; decide)
  refine lp_14 tu (by omega) u15 hu.2.2.2.2.2.2.1 ?_
  unfold f_X12_groups
  rw [if_pos (tp_ib tu (by omega)), tp_nat tu, if_pos hu.2.2.2.2.2.2.2.1]
  obtain ⟨R, eR, hR, xR⟩ := STA hN1 hI ht hz hu
  have mR := hR.mm
  obtain ⟨r1, r2, r3, r4, r5, r6, r7, r8, r9, r10, r11, r12, r13, r14⟩ := hR
  have r13 := r13 (by rw [hT]; decide)
  rw [eR]
  have oR : op R = op s := r4.eOp
  refine OPC hN1 hx h9 mR (by omega) hc (by omega) n1 hF (fun m A V a1 a2 a3 a4 a5 a6 a7 a8 a9 a10 _ hv hm => ?_)
  have hv' := hv
  obtain ⟨v1, v2, v3, v4, v5, v6, v7, v8, v9, v10, v11, v12⟩ := hv'
  have fv := v1.1.f0
  have cv := v1.cd
  obtain ⟨m3, rfl⟩ : ∃ m3, m = m3 + 1 := ⟨m - 1, by omega⟩
  have push3 : ((m3 + 1 : Nat) : Int) = (m3 : Int) + 1 := by omega
  rw [push3] at hm
  refine lp_14 v2 (by omega) v1.2.2.1 (by rw [v12 64 (by omega) (by omega) (by omega), a10]; exact r11) ?_
  unfold f_X12_groups
  rw [if_pos (tp_ib v2 (by omega)), tp_nat v2, if_neg (by rw [v11]; decide), if_pos v11]
  obtain ⟨w, ew, x1, x2⟩ := SHO hN1 v1 41 (by decide)
  rw [ew]
  clear ew
  obtain ⟨w0, hw0⟩ : ∃ w0, w0 = w.2 := ⟨_, rfl⟩
  show ok (((f_X12_emit N w.2 28 (-1)).bind fun p12 => (f_X12_goal N (RS.setA (RS.setA (RS.setA (RS.setA (RS.setA p12.2 66 t p12.1) 67 t (-1)) 68 t 0) 70 t 1) 71 t (p12.2.i 38)) 1 0).bind fun p14 => (f_X12_open N (RS.setA p14.2 72 t p14.1) 123).bind fun p16 => some (RS.setA p16.2 65 t 2)).bind fun p => f_X12_parse_10 N m3 p) P
  rw [← hw0] at x1 x2 ⊢
  clear hw0
  have ksA : KP t s A := r3.tr a3 (Nat.le_refl _)
  have ksv : KP t s V := ksA.tr v3 (Nat.le_refl _)
  have ecw : cdI w0 = cdI V := x1.tbl.cd
  rw [p_em 28 (-1) (by omega) (by omega)]
  obtain ⟨X, hX⟩ : ∃ X, X = EM w0 28 (-1) := ⟨_, rfl⟩
  rw [← hX]
  show ok (((f_X12_goal N (RS.setA (RS.setA (RS.setA (RS.setA (RS.setA X 66 t (w0.i 20)) 67 t (-1)) 68 t 0) 70 t 1) 71 t (X.i 38)) 1 0).bind fun p14 => (f_X12_open N (RS.setA p14.2 72 t p14.1) 123).bind fun p16 => some (RS.setA p16.2 65 t 2)).bind fun p => f_X12_parse_10 N m3 p) P
  obtain ⟨E, hE⟩ : ∃ E, E = (X.setA 66 t (w0.i 20)).setA 67 t (-1) := ⟨_, rfl⟩
  rw [← hE]
  have iE : ∀ j : Nat, j ≠ 20 → E.i j = w0.i j := fun j hj => by rw [hE, hX]; exact EM.i hj
  have cE : cdI E = cdI V + 1 := by rw [hE, hX]; exact (EM.cd (u := w0) (o := 28) (x := -1) (by omega) (by omega)).trans (by rw [ecw])
  have bE : E.b = w0.b := by rw [hE, hX]; rfl
  have kE : KP t V E := by rw [hE, hX]; exact ((((KP.rf t V).lx x1).em cv.1 (by omega)).loc t _ (by omega) (by omega) (Nat.le_refl _)).loc t _ (by omega) (by omega) (Nat.le_refl _)
  have E21 : ∀ j : Nat, E.a 21 j = if j = (cdI V).toNat then 28 else w0.a 21 j := fun j => by rw [hE, setA_nk (by decide), setA_nk (by decide), hX, EM.a21, ecw]
  have E22 : E.a 22 (cdI V).toNat = -1 := by rw [hE, setA_nk (by decide), setA_nk (by decide), hX, EM.a22, if_pos (by rw [ecw])]
  have E66 : E.a 66 t = w0.i 20 := by rw [hE, setA_nk (by decide)]; exact setA_at
  have E67 : E.a 67 t = -1 := by rw [hE]; exact setA_at
  have aE : ∀ k : Nat, k ≠ 21 → k ≠ 22 → k ≠ 23 → k ≠ 66 → k ≠ 67 → E.a k = w0.a k := fun k h1 h2 h3 h4 h5 => by rw [hE, setA_nk h5, setA_nk h4, hX, EM.a h1 h2 h3]
  have tE : ∀ h : MM t s w0, cdI w0 + 1 - cdI s ≤ 3 * (fr w0 - fr s) → MM t s E := fun h q => by rw [hE, hX]; exact ((h.em hI q).loc _ (by omega) (by omega)).loc _ (by omega) (by omega)
  have X38 : X.i 38 = w0.i 38 := by rw [hX]; rfl
  have X52 : X.i 52 = w0.i 52 := by rw [hX]; rfl
  rw [X38]
  clear hX
  clear hE
  obtain ⟨U, hU⟩ : ∃ U, U = ((E.setA 68 t 0).setA 70 t 1).setA 71 t (w0.i 38) := ⟨_, rfl⟩
  rw [← hU]
  have iU : U.i = E.i := by rw [hU]; rfl
  have bU : U.b = E.b := by rw [hU]; rfl
  have kU : KP t V U := by rw [hU]; exact ((kE.loc t _ (by omega) (by omega) (Nat.le_refl _)).loc t _ (by omega) (by omega) (Nat.le_refl _)).loc t _ (by omega) (by omega) (Nat.le_refl _)
  have aU : ∀ k : Nat, k ≠ 68 → k ≠ 70 → k ≠ 71 → U.a k = E.a k := fun k h1 h2 h3 => by rw [hU, setA_nk h3, setA_nk h2, setA_nk h1]
  have U68 : U.a 68 t = 0 := by rw [hU, setA_nk (by decide), setA_nk (by decide)]; exact setA_at
  have U70 : U.a 70 t = 1 := by rw [hU, setA_nk (by decide)]; exact setA_at
  have U71 : U.a 71 t = w0.i 38 := by rw [hU]; exact setA_at
  have tU : MM t s E → MM t s U := fun h => by rw [hU]; exact ((h.loc _ (by omega) (by omega)).loc _ (by omega) (by omega)).loc _ (by omega) (by omega)
  clear hU
  have gos := hI.2.2.2.2.2.2.2.2.2.2.2.1
  have vgo : goI V = goI s := by
    have e1 : goI V = goI A := v4.go
    have e2 := a4.go
    have e3 := r4.go
    omega
  have gU : goI U = goI s := by
    have e1 : goI U = goI w0 := by unfold goI; rw [iU, iE 43 (by decide)]
    have e2 := x1.tbl.go
    omega
  rw [p_go 1 0 (by omega) (by omega)]
  obtain ⟨Y, hY⟩ : ∃ Y, Y = GO U 1 0 := ⟨_, rfl⟩
  rw [← hY]
  show ok (((f_X12_open N (RS.setA Y 72 t (U.i 43)) 123).bind fun p16 => some (RS.setA p16.2 65 t 2)).bind fun p => f_X12_parse_10 N m3 p) P
  have iY : ∀ j : Nat, j ≠ 43 → Y.i j = U.i j := fun j hj => by rw [hY]; exact GO.eI hj
  have bY : Y.b 9 = U.b 9 := by rw [hY]; rfl
  have gY : goI Y = goI s + 1 := by rw [hY, GO.eGO (by omega) (by omega), gU]
  have aY : ∀ k : Nat, k < 44 ∨ 51 < k → Y.a k = U.a k := fun k h1 => by rw [hY]; exact GO.eA (by omega)
  obtain ⟨γ0, hγ0⟩ : ∃ γ0, γ0 = (U.i 43).toNatClampNeg := ⟨_, rfl⟩
  have gn : (γ0 : Int) = goI s := by rw [hγ0]; exact (gN (by omega)).trans gU
  have Y44 : Y.a 44 γ0 = 1 := by rw [hY, hγ0]; exact GO.a44
  have Y47 : Y.a 47 γ0 = U.i 52 := by rw [hY, hγ0]; exact GO.a47
  have Yhd : hd Y true γ0 = -1 := by rw [hY, hγ0]; exact GO.eHD0
  have kY : KP t V Y := by rw [hY]; exact kU.go (by omega) (by omega)
  have IY : INV U → 2 * (goI U + 1) ≤ fr U → INV Y := fun h q => by rw [hY]; exact h.go q
  have PY : PRL U → PRL Y := fun h => by rw [hY]; exact h.go (by omega) (by omega) (by decide)
  clear hY hγ0
  obtain ⟨G, hG⟩ : ∃ G, G = Y.setA 72 t (U.i 43) := ⟨_, rfl⟩
  have iGY : G.i = Y.i := by rw [hG]; rfl
  have iG : ∀ j : Nat, j ≠ 43 → G.i j = U.i j := fun j hj => by rw [iGY]; exact iY j hj
  have bG : G.b 9 = U.b 9 := by rw [hG]; exact bY
  have gG : goI G = goI s + 1 := by rw [← gY]; unfold goI; rw [iGY]
  have aGY : ∀ k : Nat, k ≠ 72 → G.a k = Y.a k := fun k hk => by rw [hG]; exact setA_nk hk
  have aG : ∀ k : Nat, k < 44 ∨ 51 < k → k ≠ 72 → G.a k = U.a k := fun k h1 h2 => (aGY k h2).trans (aY k h1)
  have G44 : G.a 44 γ0 = 1 := by rw [aGY 44 (by decide)]; exact Y44
  have G47 : G.a 47 γ0 = U.i 52 := by rw [aGY 47 (by decide)]; exact Y47
  have Ghd : hd G true γ0 = -1 := by
    have e : hd G true γ0 = hd Y true γ0 := by unfold hd gv; rw [aGY _ (by decide)]
    rw [e]; exact Yhd
  have G72 : G.a 72 t = U.i 43 := by rw [hG]; exact setA_at
  have kG : KP t V G := by rw [hG]; exact kY.loc t _ (by omega) (by omega) (Nat.le_refl _)
  have IG : INV U → 2 * (goI U + 1) ≤ fr U → INV G := fun h q => by rw [hG]; exact (IY h q).loc t _ (by omega) (by omega)
  have PG : PRL U → PRL G := fun h => by rw [hG]; exact (PY h).tbl (TBL.loc _ t _ (by omega) (by omega))
  rw [← hG]
  clear hG
  have i20 : ∀ j : Nat, j ≠ 20 → j ≠ 43 → G.i j = w0.i j := fun j h1 h2 => by rw [iG j h2, iU, iE j h1]
  have lG : LXI G := x1.2.2.2.1.of (i20 2 (by decide) (by decide)) (i20 10 (by decide) (by decide)) (i20 11 (by decide) (by decide)) (i20 12 (by decide) (by decide)) (i20 14 (by decide) (by decide)) (by rw [bG, bU, bE])
  have r75 : G.i 75 = 0 ∨ G.i 75 = 1 := by rw [i20 75 (by decide) (by decide), x1.2.2.1 75 (by omega) (by omega)]; exact v1.r
  have ksG : KP t s G := ksv.tr kG (Nat.le_refl _)
  have flt : ∀ S : RS, LX G S → ¬ S.i 15 = 0 → ok (f_X12_parse_10 N m3 (S.setA 65 t 2)) P := fun S h1 h2 => lp_f (u := S.setA 65 t 2) h2 (hF _ (FS'.loc (FS'.of ksG.1.1 h1 h2 r75) t 2 (by omega) (by omega))) (by omega)
  rcases x2 with x2 | ⟨x2, x3, x4, x5, x6⟩
  · obtain ⟨S, eS, o1, -, -⟩ := p_op hN1 lG 123 (by decide)
    rw [eS]
    exact flt S.2 o1 (fun q => x2 (by rw [← i20 15 (by decide) (by decide)]; exact o1.2.2.2.2.1 q))
  have mB : MM t s w0 := MM.clo hI mR a3 a4 a5 a7 a8 a9 hv x1 x2 x4 x5 x6
  have raw := mB.2.2.2.2.2.1
  have mU : MM t s U := tU (tE mB (by unfold RATE at v6 r6; have := a4.cd; omega))
  have fU : fr U = fr w0 := by unfold fr; rw [iU, iE 11 (by decide)]
  have iiG : INV G := IG mU.1 (by omega)
  have prG : PRL G := PG (hpl.kp mU.2.2.1 mU.2.2.2.1.go)
  obtain ⟨p, ep, hpp⟩ := OPO (t := t) hN1 iiG 123 (by decide)
  rw [ep]
  clear ep
  rcases hpp with ⟨p1, p2, p3⟩ | ⟨p1, p2, p3, q1, q2, q3, q4, q5, q6, q7, q8, q9, q10, q11⟩
  · exact flt p.2 p2 p1
  show ok (f_X12_parse_10 N m3 (p.2.setA 65 t 2)) P
  obtain ⟨O, hO⟩ : ∃ O, O = p.2.setA 65 t 2 := ⟨_, rfl⟩
  have iO : O.i = p.2.i := by rw [hO]; rfl
  have aO : ∀ k : Nat, k ≠ 65 → O.a k = G.a k := fun k hk => by rw [hO, setA_nk hk, q10]
  have O65 : O.a 65 t = 2 := by rw [hO]; exact setA_at
  have tbO : TBL G O := by rw [hO]; exact q4.tr (TBL.loc _ t _ (by omega) (by omega))
  have kO : KP t G O := by rw [hO]; exact q3.loc t _ (by omega) (by omega) (Nat.le_refl _)
  have iiO : INV O := by rw [hO]; exact q1.loc t _ (by omega) (by omega)
  rw [← hO]
  clear hO
  have fO : fr O = fr p.2 := by unfold fr; rw [iO]
  have tkO : tkI O = tkI p.2 := by unfold tkI; rw [iO]
  have fG : fr G = fr w0 := by unfold fr; rw [i20 11 (by decide) (by decide)]
  have tkG : tkI G = tkI w0 := by unfold tkI; rw [i20 17 (by decide) (by decide)]
  have kVO : KP t V O := kG.tr kO (Nat.le_refl _)
  have ek : ((cdI V).toNat : Int) = cdI V := Int.toNat_of_nonneg cv.1
  have cG : cdI G = cdI V + 1 := by
    have : cdI G = cdI E := by unfold cdI; rw [iG 20 (by decide), iU]
    omega
  have cO : cdI O = cdI V + 1 := tbO.cd.trans cG
  have m1 : (-1 : Int32).toInt = -1 := by decide
  have aGU : ∀ k : Nat, k < 44 ∨ 51 < k → k ≠ 65 → k ≠ 72 → O.a k = U.a k := fun k h1 h2 h3 => (aO k h2).trans (aG k h1 h3)
  have ea : ∀ k : Nat, k < 44 ∨ 51 < k → k ≠ 65 → k ≠ 72 → k ≠ 68 → k ≠ 70 → k ≠ 71 → O.a k = E.a k := fun k h1 h2 h3 h4 h5 h6 => (aGU k h1 h2 h3).trans (aU k h4 h5 h6)
  have O38 : O.i 38 = V.i 38 := by rw [iO, q11.2.2.1 38 (by omega) (by omega), i20 38 (by decide) (by decide)]; exact x1.i38
  have V38 : V.i 38 = s.i 38 := v5.trans ((a4.2.2 38 (by omega) (by omega) (by omega) (by omega)).trans r5)
  have d1 : V.i 52 = s.i 52 := v4.2.2.1.trans (a7.trans r4.2.2.1)
  have A52 : A.i 52 = s.i 52 := a7.trans r4.2.2.1
  have sV : SAME A V := v4
  have een : enI O = enI w0 := by
    have h1 : enI O = enI G := tbO.en
    have h2 : enI G = enI w0 := by unfold enI; rw [i20 24 (by decide) (by decide)]
    omega
  have ewV : enI w0 = enI V := x1.tbl.en
  have eA : enI A = enI R := a4.en
  have gi : GI t s V γ0 [] O := by
    refine ⟨⟨iiO, by unfold tpI; rw [iO]; exact q2.trans ((congrArg Int32.toInt (i20 63 (by decide) (by decide))).trans mB.2.1), kVO, prG.tbl tbO⟩, ⟨?_, by rw [tbO.go]; exact gG, ?_, ?_⟩, ⟨SNW.eq O38 kVO.2.2.2.2.2.1.2.1, ?_, ?_, by omega, ?_⟩, ⟨?_, ?_, Or.inl ⟨rfl, ?_⟩, fun _ => ?_, ?_, ?_⟩, ⟨by omega, ?_, ?_, fun j hj => absurd hj List.not_mem_nil⟩, ⟨?_, ?_, [], ?_, fun x hx => absurd hx List.not_mem_nil⟩, fun _ => TSX.nil _ _ _⟩
    · rw [iO, q5, i20 19 (by decide) (by decide), mB.2.2.2.1.1]
    · rw [iO, q7, i20 52 (by decide) (by decide)]; exact mB.2.2.2.1.2.2.1
    · rw [iO, q11.2.2.1 56 (by omega) (by omega), i20 56 (by decide) (by decide)]; exact mB.2.2.2.1.2.2.2
    · have h3 : trI O = trI w0 := by rw [tbO.tt]; unfold trI; rw [i20 29 (by decide) (by decide)]
      have h4 : caI O = caI w0 := by rw [tbO.ca]; unfold caI; rw [i20 33 (by decide) (by decide)]
      have h5 : slI O = slI w0 := by rw [tbO.sl]; unfold slI; rw [i20 42 (by decide) (by decide)]
      have h6 : peI O = peI w0 := by rw [tbO.pe]; unfold peI; rw [i20 59 (by decide) (by decide)]
      unfold RATE at raw ⊢
      rw [een, h3, h4, h5, h6]
      omega
    · unfold RATE at v6 r6
      omega
    · have := mB.2.2.2.2.2.2.2
      omega
    · rw [ea 64 (by omega) (by decide) (by decide) (by decide) (by decide) (by decide), aE 64 (by decide) (by decide) (by decide) (by decide) (by decide), x1.1, v12 64 (by omega) (by omega) (by omega), a10]; exact r11
    · rw [ea 66 (by omega) (by decide) (by decide) (by decide) (by decide) (by decide), E66]; exact ecw
    · rw [ea 67 (by omega) (by decide) (by decide) (by decide) (by decide) (by decide), E67, m1]; decide
    · rw [aGU 70 (by omega) (by decide) (by decide)]; exact U70
    · rw [aGU 71 (by omega) (by decide) (by decide), U71]; exact x1.i38.trans V38
    · rw [aO 72 (by decide), G72]; show goI U = _; omega
    · rw [ea 21 (by omega) (by decide) (by decide) (by decide) (by decide) (by decide), E21, if_pos rfl]
    · show gv O 22 _ < 0
      unfold gv
      rw [ea 22 (by omega) (by decide) (by decide) (by decide) (by decide) (by decide), E22, m1]; decide
    · rw [aO 44 (by decide)]; exact G44
    · unfold gv
      rw [aO 47 (by decide), G47, iU, iE 52 (by decide)]
      exact mB.2.2.2.1.de
    · rw [tbO.hd, Ghd]; show (-1 : Int) < 0; omega
  have g68 : G68 t [] O := Or.inl (by rw [aGU 68 (by omega) (by decide) (by decide)]; exact U68)
  obtain ⟨m4, rfl⟩ : ∃ m4, m3 = m4 + 1 := ⟨m3 - 1, by omega⟩
  have push4 : ((m4 + 1 : Nat) : Int) = (m4 : Int) + 1 := by omega
  rw [push4] at hm
  have fOf := iiO.1.f0
  exact GR2 (B0 := (n : Int) + 1 + 40 * fr s + 11) hN hl hI h9 hb hc hF ksA (a4.cd.trans r9) (by rw [a10]; exact r10) ((a4.2.2 38 (by omega) (by omega) (by omega) (by omega)).trans r5) A52 (by omega) v9 v3 v1 d1 v7 vgo V38 gn hC 1000 m4 [] O gi g68 O65 (by omega) (by omega) (by omega)
end
section
/-! reading: arms: their typing -/
/-- from a later state to an earlier -/
theorem AGZ.pre {Z : Nat → Nat → Prop} {t : Nat} {V B w f : RS} (hA : AGZ Z V w f) (k : KP t B w) (hn : TN B) (hg : goI w ≤ goI B) : AGZ Z V B f := by
  obtain ⟨a1, a2, a3, a4, a5, a6, a7, a8⟩ := hA
  obtain ⟨kc, ke, kt, kh⟩ : KC B w ∧ KE B w ∧ KT B w ∧ KH B w := ⟨k.2.1, k.2.2.1, k.2.2.2.1, k.2.2.2.2.1⟩
  have q1 := kc.1
  have q2 := ke.1
  have q3 := kt.1
  have q4 := kh.1
  refine ⟨by omega, by omega, by omega, by rw [← k.1.1.1 3 (by omega)]; exact a4, fun j j1 j2 => ?_, fun j j1 j2 => ?_, fun j j1 j2 z => ?_, fun j j1 j2 => ?_⟩
  · obtain ⟨b1, b2⟩ := a5 j j1 (by omega)
    refine ⟨b1.trans (kc.2.1 j (by omega)), fun z => ?_⟩
    obtain ⟨b3, b4⟩ := b2 z
    exact ⟨b3.trans (kc.2.2.2 j (by omega)), fun q => (b4 (fun y => q (OPN.back k hn hg j2 y))).trans (kc.2.2.1 j (by omega))⟩
  · obtain ⟨b1, b2, b3⟩ := a6 j j1 (by omega)
    exact ⟨b1.trans (ke.2.2.1 j (by omega)), b2.trans (ke.2.2.2.2 j (by omega)), fun z => (b3 z).trans (ke.2.2.2.1 j (by omega))⟩
  · obtain ⟨b1, b2, b3⟩ := a7 j j1 (by omega) z
    exact ⟨b1.trans (kt.2.1 j (by omega)), b2.trans (kt.2.2.1 j (by omega)), b3.trans (kt.2.2.2 j (by omega))⟩
  · obtain ⟨b1, b2, b3⟩ := a8 j j1 (by omega)
    exact ⟨b1.trans (kh.2.2.1 j (by omega)), b2.trans (kh.2.2.2.1 j (by omega)), fun z => (b3 z).trans (kh.2.2.2.2.1 j (by omega))⟩
/-- what was laid since B is whole -/
theorem AGZ.inn {Z : Nat → Nat → Prop} {t : Nat} {V B w f : RS} (hA : AGZ Z V w f) (k : KP t V B) (z1 : ∀ j : Nat, cdI B ≤ j → ¬ Z 22 j) (z2 : ∀ j : Nat, enI B ≤ j → ¬ Z 27 j) (z3 : ∀ j : Nat, trI B ≤ j → ¬ Z 30 j) (z4 : ∀ j : Nat, caI B ≤ j → ¬ Z 37 j) : AG0 B w f := by
  obtain ⟨a1, a2, a3, a4, a5, a6, a7, a8⟩ := hA
  have q1 := k.2.1.1
  have q2 := k.2.2.1.1
  have q3 := k.2.2.2.1.1
  have q4 := k.2.2.2.2.1.1
  refine ⟨a1, a2, a3, a4, fun j j1 j2 => ?_, fun j j1 j2 => ?_, fun j j1 j2 => ?_, fun j j1 j2 => ?_⟩
  · obtain ⟨b1, b2⟩ := a5 j (by omega) j2
    obtain ⟨b3, b4⟩ := b2 (z1 j j1)
    exact ⟨b1, b3, b4⟩
  · obtain ⟨b1, b2, b3⟩ := a6 j (by omega) j2
    exact ⟨b1, b3 (z2 j j1), b2⟩
  · exact a7 j (by omega) j2 (z3 j j1)
  · obtain ⟨b1, b2, b3⟩ := a8 j (by omega) j2
    exact ⟨b1, b2, b3 (z4 j j1)⟩
theorem AGZ.ent {t c0 : Nat} {L : List Nat} {y : Int32} {V u U f : RS} (hA : AGZ (ZG c0 (L ++ [(enI u).toNat])) V U f) (en : ENT t c0 L y u U) (c21 : ¬ u.a 21 c0 = 36) (eu0 : 0 ≤ enI u) : AGZ (ZG c0 L) V u f := by
  obtain ⟨a1, a2, a3, a4, a5, a6, a7, a8⟩ := hA
  have ee : ((enI u).toNat : Int) = enI u := Int.toNat_of_nonneg eu0
  have ec := en.cd
  have een := en.2.1
  have e3 : trI U = trI u := by unfold trI; rw [en.1 29 (by decide)]
  have e4 : caI U = caI u := by unfold caI; rw [en.1 33 (by decide)]
  have aU : ∀ k : Nat, k ≠ 22 → ¬ (25 ≤ k ∧ k ≤ 28) → k < 64 → U.a k = u.a k := fun k a b c => en.2.2.2.1 k a b (by omega)
  refine ⟨by omega, by omega, by omega, by rw [← en.1 3 (by decide)]; exact a4, fun k k1 k2 => ?_, fun k k1 k2 => ?_, fun k k1 k2 z => ?_, fun k k1 k2 => ?_⟩
  · obtain ⟨b1, b2⟩ := a5 k k1 (by omega)
    refine ⟨b1.trans (by rw [aU 21 (by decide) (by omega) (by decide)]), fun z => ?_⟩
    have nz : k ≠ c0 := fun e => z (Or.inl ⟨rfl, e⟩)
    obtain ⟨b3, b4⟩ := b2 (fun q => by
      rcases q with q | q
      · exact nz q.2
      · exact absurd q.1 (by decide))
    exact ⟨b3.trans (by rw [aU 23 (by decide) (by omega) (by decide)]), fun q => (b4 (fun y => q (en.opn c21 y))).trans (en.2.2.2.2.2.2.1 k nz)⟩
  · obtain ⟨b1, b2, b3⟩ := a6 k k1 (by omega)
    refine ⟨b1.trans (en.2.2.2.2.2.2.2.1 26 k (by omega) (by omega) (by omega) (Or.inl (by decide))), b2.trans (en.2.2.2.2.2.2.2.1 28 k (by omega) (by omega) (by omega) (Or.inl (by decide))), fun z => ?_⟩
    have nz : k ∉ L := fun q => z (Or.inr ⟨rfl, q⟩)
    refine (b3 (fun q => ?_)).trans (en.2.2.2.2.2.2.2.1 27 k (by omega) (by omega) (by omega) (Or.inr nz))
    rcases q with q | q
    · exact absurd q.1 (by decide)
    · rcases List.mem_append.mp q.2 with q | q
      · exact nz q
      · rcases List.mem_cons.mp q with q | q
        · omega
        · exact absurd q List.not_mem_nil
  · obtain ⟨b1, b2, b3⟩ := a7 k k1 (by omega) (fun q => by
      rcases q with q | q
      · exact absurd q.1 (by decide)
      · exact absurd q.1 (by decide))
    exact ⟨b1.trans (by rw [aU 30 (by decide) (by omega) (by decide)]), b2.trans (by rw [aU 31 (by decide) (by omega) (by decide)]), b3.trans (by rw [aU 32 (by decide) (by omega) (by decide)])⟩
  · obtain ⟨b1, b2, b3⟩ := a8 k k1 (by omega)
    exact ⟨b1.trans (by rw [aU 35 (by decide) (by omega) (by decide)]), b2.trans (by rw [aU 36 (by decide) (by omega) (by decide)]), fun _ => (b3 (fun q => by
      rcases q with q | q
      · exact absurd q.1 (by decide)
      · exact absurd q.1 (by decide))).trans (by rw [aU 37 (by decide) (by omega) (by decide)])⟩
theorem AGC.ent {t c0 : Nat} {L : List Nat} {y : Int32} {V u U : RS} {C : Nat → Bool} (h : AGC V U C) (en : ENT t c0 L y u U) : AGC V u C := by
  have e4 : caI U = caI u := by unfold caI; rw [en.1 33 (by decide)]
  have e6 : slI U = slI u := by unfold slI; rw [en.1 42 (by decide)]
  intro x h1 h2
  rw [h x h1 (by rw [e6]; exact h2)]
  constructor
  · rintro ⟨j, j1, j2, j3⟩
    exact ⟨j, j1, by rw [← e4]; exact j2, by rw [← en.g (by decide) (by omega) (by decide)]; exact j3⟩
  · rintro ⟨j, j1, j2, j3⟩
    exact ⟨j, j1, by rw [e4]; exact j2, by rw [en.g (by decide) (by omega) (by decide)]; exact j3⟩
theorem OPN.i38 {w : RS} {x : Int32} {k : Nat} (h : OPN w k) : OPN (w.setI 38 x) k := by
  obtain ⟨γ, b, M, x1, x2, x3⟩ := h
  exact ⟨γ, b, M, x1, by cases b <;> exact x2.of (fun y _ => ⟨rfl, rfl⟩), x3⟩
theorem AG0.i38 {s w f : RS} (h : AG0 s w f) (x : Int32) : AG0 s (w.setI 38 x) f := ⟨h.1, h.2.1, h.2.2.1, h.2.2.2.1, fun k a b => ⟨(h.2.2.2.2.1 k a b).1, (h.2.2.2.2.1 k a b).2.1, fun q => (h.2.2.2.2.1 k a b).2.2 (fun y => q y.i38)⟩, h.2.2.2.2.2.1, h.2.2.2.2.2.2.1, h.2.2.2.2.2.2.2⟩
theorem AGZ.i38 {Z : Nat → Nat → Prop} {s w f : RS} (h : AGZ Z s w f) (x : Int32) : AGZ Z s (w.setI 38 x) f := ⟨h.1, h.2.1, h.2.2.1, h.2.2.2.1, fun k a b => ⟨(h.2.2.2.2.1 k a b).1, fun z => ⟨((h.2.2.2.2.1 k a b).2 z).1, fun q => ((h.2.2.2.2.1 k a b).2 z).2 (fun y => q y.i38)⟩⟩, h.2.2.2.2.2.1, h.2.2.2.2.2.2.1, h.2.2.2.2.2.2.2⟩
/-- the record of a switch that answers -/
def ARM (c0 h o v : Nat) : Rec := (3, c0, 0, h, o, v, false, false)
/-- arms laid so far -/
def TSA (L0 L : List Nat) (c0 : Nat) (V w : RS) : Prop := ∀ (f : RS) (C : Nat → Bool), AGZ (ZG c0 L) V w f → AGC V w C → ∀ (h o v : Nat) (rs : List Rec), CX V h o v rs → ∃ S : Nat → Ctx → Prop, ∀ g : Gh, g.isC = C → (∀ k c, S k c → g.T k c) → ENB V w f g v (ARM c0 h o v :: rs) → (∀ j ∈ L0, FL f g v (gv w 26 j) (gv w 26 j) h o (ARM c0 h o v :: rs)) ∧ ∀ k c, S k c → GOOD f g k c
theorem TSA.nil (c0 : Nat) (V w : RS) : TSA [] [] c0 V w := fun _ _ _ _ _ _ _ _ _ => ⟨fun _ _ => False, fun _ _ _ _ => ⟨fun j hj => absurd hj List.not_mem_nil, fun _ _ q => q.elim⟩⟩
theorem TSA.tbl {L0 L : List Nat} {c0 : Nat} {V w w' : RS} (h : TSA L0 L c0 V w) (tb : TBL w w') : TSA L0 L c0 V w' := by
  intro f C hA hC h' o v rs hx
  obtain ⟨S, hS⟩ := h f C (hA.tblb tb) (hC.tblb tb) h' o v rs hx
  refine ⟨S, fun g hg hT hE => ?_⟩
  have e := hS g hg hT ⟨fun k hk => hE.1 k (by rw [tb.cd]; exact hk), hE.2⟩
  exact ⟨fun j hj => by rw [tb.g (by decide)]; exact e.1 j hj, e.2⟩
theorem TSA.ent {t c0 : Nat} {L0 L : List Nat} {y : Int32} {V u U : RS} (h : TSA L0 L c0 V u) (en : ENT t c0 L y u U) (c21 : ¬ u.a 21 c0 = 36) (eu0 : 0 ≤ enI u) (hL : ∀ j ∈ L0, (j : Int) < enI u) : TSA L0 (L ++ [(enI u).toNat]) c0 V U := by
  intro f C hA hC h' o v rs hx
  have ee : ((enI u).toNat : Int) = enI u := Int.toNat_of_nonneg eu0
  obtain ⟨S, hS⟩ := h f C (hA.ent en c21 eu0) (hC.ent en) h' o v rs hx
  refine ⟨S, fun g hg hT hE => ?_⟩
  have e := hS g hg hT ⟨fun k hk => hE.1 k (by rw [en.cd]; exact hk), hE.2⟩
  refine ⟨fun j hj => ?_, e.2⟩
  have := hL j hj
  have e26 : gv U 26 j = gv u 26 j := by unfold gv; rw [en.2.2.2.2.2.2.2.1 26 j (by omega) (by omega) (by omega) (Or.inl (by decide))]
  rw [e26]
  exact e.1 j hj
theorem CX.arm {V B : RS} {h o v c0 : Nat} {rs : List Rec} (hx : CX V h o v rs) (hd : deI B = deI V + 1) (hf : fr V ≤ fr B) (f9 : fr B ≤ 900) (d9 : deI B ≤ 250) : CX B h o v (ARM c0 h o v :: rs) := by
  obtain ⟨c1, c2, c3, c4, c5, c6, c7, c8⟩ := hx
  have e : wv (ARM c0 h o v :: rs) = wv rs := by
    unfold wv
    rw [if_neg (show ¬ Rec.k (ARM c0 h o v) = 2 by show ¬ (3 : Nat) = 2; decide), Nat.zero_add]
    cases rs <;> rfl
  exact ⟨by show ((rs.length + 1 : Nat) : Int) = deI B; omega, by omega, by omega, by omega, by rw [e]; omega, ⟨Or.inr rfl, c6⟩, f9, d9⟩
/-- a piece of code that is one arm -/
def PCE (c0 : Nat) (V B w : RS) : Prop := ∀ (f : RS) (C : Nat → Bool), AG0 B w f → AGC B w C → ∀ (h o v : Nat) (rs : List Rec), CX V h o v rs → ∃ S : Nat → Ctx → Prop, ∀ g : Gh, g.isC = C → (∀ k c, S k c → g.T k c) → ENB V w f g v (ARM c0 h o v :: rs) → FL f g v (cdI B) (cdI B) h o (ARM c0 h o v :: rs) ∧ ∀ k c, S k c → GOOD f g k c
theorem TSA.add {t c0 : Nat} {L0 L : List Nat} {V B w : RS} (h : TSA L0 L c0 V B) (hp : PCE c0 V B w) (kB : KP t V B) (k : KP t B w) (hn : TN B) (hg : goI w ≤ goI B) (c1 : (c0 : Int) < cdI B) (hL : ∀ j ∈ L, (j : Int) < enI B) (hpe : ∀ j ∈ L, j ∈ L0 ∨ gv B 26 j = cdI B) : TSA L L c0 V w := by
  intro f C hA hC h' o v rs hx
  have kh := k.2.2.2.2.1
  have ke := k.2.2.1
  have kc := k.2.1
  have C1 : AGC V B C := hC.mid (KP.rf t V) kB k.2.2.2.2.2.1.2.1 kh.1 (fun j hj => by unfold gv; rw [kh.2.2.2.1 j hj]) (fun j j1 j2 => (kh.2.2.2.2.2 j j1 j2).1)
  have C2 : AGC B w C := hC.mid kB k (Int.le_refl _) (Int.le_refl _) (fun _ _ => rfl) (fun j j1 j2 => by omega)
  have A2 : AG0 B w f := hA.inn kB (fun j hj q => by
    rcases q with q | q
    · have := q.2; omega
    · exact absurd q.1 (by decide)) (fun j hj q => by
    rcases q with q | q
    · exact absurd q.1 (by decide)
    · have := hL j q.2; omega) (fun j _ q => by
    rcases q with q | q
    · exact absurd q.1 (by decide)
    · exact absurd q.1 (by decide)) (fun j _ q => by
    rcases q with q | q
    · exact absurd q.1 (by decide)
    · exact absurd q.1 (by decide))
  obtain ⟨S1, z1⟩ := h f C (hA.pre k hn hg) C1 h' o v rs hx
  obtain ⟨S2, z2⟩ := hp f C A2 C2 h' o v rs hx
  refine ⟨fun k c => S1 k c ∨ S2 k c, fun g hgC hT hE => ?_⟩
  obtain ⟨f1, d1⟩ := z1 g hgC (fun k c q => hT k c (Or.inl q)) ⟨fun j hj => hE.1 j (by have := kc.1; omega), hE.2⟩
  obtain ⟨f2, d2⟩ := z2 g hgC (fun k c q => hT k c (Or.inr q)) hE
  refine ⟨fun j hj => ?_, fun k c q => ?_⟩
  · have e26 : gv w 26 j = gv B 26 j := by unfold gv; rw [ke.2.2.1 j (hL j hj)]
    rw [e26]
    rcases hpe j hj with q | q
    · exact f1 j q
    · rw [q]; exact f2
  · rcases q with q | q
    · exact d1 k c q
    · exact d2 k c q
/-- an arm that is an expression -/
theorem PCE.expr {t c0 : Nat} {V B v w : RS} (te : TE B v) (kV : KP t V B) (k2 : KP t B v) (iv : INV v) (kw : KP t v w) (gw : goI w ≤ goI v) (cw : cdI w = cdI v + 1) (w21 : w.a 21 (cdI v).toNat = 30) (B38 : B.i 38 = V.i 38) (dB : deI B = deI V + 1) (dv : v.i 52 = B.i 52) (fB : fr V ≤ fr B) (fv : fr B + 1 ≤ fr v) (d9 : deI B ≤ 250) : PCE c0 V B w := by
  intro f C hA hC h o lv rs hx
  have f9 := iv.1.f0
  have cv := iv.cd
  have le := k2.2.1.1
  have ek : ((cdI v).toNat : Int) = cdI v := Int.toNat_of_nonneg cv.1
  obtain ⟨A1, C1⟩ := AG.mid hA hC (KP.rf t B) k2 kw iv.tn gw
  have hxB := hx.arm (c0 := c0) dB fB (by omega) d9
  have c1 := te f C A1 C1 h o lv _ hxB
  obtain ⟨p1, p2, p3, p4⟩ := hA.cell (k := (cdI v).toNat) (o := 30) (x := w.a 22 (cdI v).toNat) (by omega) (by omega) w21 rfl (by decide)
  have hx2 := hx.2.1
  have c30 : COD f C (cdI v).toNat (h + 1) o lv (ARM c0 h o lv :: rs) (fun g => ENB V w f g lv (ARM c0 h o lv :: rs)) := by
    refine COD.ins (hxB.up (s1 := v) (h + 1) dv (by omega) (by omega) (by omega)) p4 (fun g _ hE => ⟨okJ_30 (c := (h + 1, o, lv, false, ARM c0 h o lv :: rs)) p1 ⟨ARM c0 h o lv, rs, rfl, rfl, rfl⟩, hE.1 _ (by omega)⟩)
  have cc : COD f C (cdI B) h o lv (ARM c0 h o lv :: rs) (fun g => ENB V w f g lv (ARM c0 h o lv :: rs)) := COD.seq c1.cod c30 (fun g _ hE => hE) (fun g _ hE hF => ⟨hE.mid kV B38 (by omega), by rw [ek] at hF; exact hF⟩)
  obtain ⟨S, hS⟩ := cc
  exact ⟨S, fun g h1 h2 h3 => hS g h1 h2 h3⟩
/-- an arm that is a block -/
theorem PCE.blk {t c0 γ0 : Nat} {V B v w : RS} (ts : TS B v) (kV : KP t V B) (k2 : KP t B v) (s2 : SAME B v) (iv : INV v) (kw : KP t v (w.setI 38 (v.i 38))) (gw : goI w ≤ goI v) (cw : cdI w = cdI v) (B38 : B.i 38 = V.i 38) (dB : deI B = deI V + 1) (fB : fr V ≤ fr B) (f9 : fr B ≤ 900) (d9 : deI B ≤ 250) (nr : ¬ v.i 75 = 1) (g0 : goI B = (γ0 : Int) + 1) (B44 : B.a 44 γ0 = 3) (B47 : gv B 47 γ0 = deI B) : PCE c0 V B w := by
  intro f C hA hC h o lv rs hx
  have cv := iv.cd
  have le := k2.2.1.1
  have kg := k2.2.2.2.2.2.2.1
  have hA' : AG0 B (w.setI 38 (v.i 38)) f := hA.i38 _
  have hC' : AGC B (w.setI 38 (v.i 38)) C := hC
  obtain ⟨A1, C1⟩ := AG.mid hA' hC' (KP.rf t B) k2 kw iv.tn gw
  have hxB := hx.arm (c0 := c0) dB fB f9 d9
  have h1 := hx.1
  have hyB : YE B (ARM c0 h o lv :: rs) := by
    intro γ a1 a2 a3
    have e : γ = γ0 := by
      by_cases q : γ = γ0
      · exact q
      · exact absurd B44 (a3 γ0 (by omega) (by omega))
    subst e
    refine ⟨by omega, ARM c0 h o lv, rs, ?_, rfl, by omega⟩
    unfold dA
    rw [if_pos (by omega)]
  obtain ⟨S, hS⟩ := ts f C A1 C1 h o lv _ hxB hyB
  refine ⟨S, fun g hg hT hE => hS g hg hT ⟨hE.mid kV B38 (by omega), fun q => absurd q nr, fun γ b k a1 a2 a3 => ?_⟩⟩
  have gv' : goI v = goI B := s2.go
  have e44 : v.a 44 γ0 = 3 := by rw [kg.2.1 γ0 (by omega)]; exact B44
  by_cases q : γ = γ0
  · subst q; exact absurd e44 a1.2.1
  · exact absurd e44 (a1.2.2 γ0 (by have := a1.1; omega) (by omega))
/-- a switch that answers -/
theorem TE.arms {t : Nat} {s A V w W : RS} {L : List Nat} (hI : INV s) (kA : KP t s A) (cA : cdI A = cdI s) (A38 : A.i 38 = s.i 38) (A52 : A.i 52 = s.i 52) (fA : fr s + 1 ≤ fr A) (te : TE A V) (k1 : KP t A V) (i1 : INV V) (d1 : V.i 52 = s.i 52) (f1 : fr A + 1 ≤ fr V) (gV : goI V = goI s) (V38 : V.i 38 = s.i 38) (kV : KP t V w) (tsa : TSA L L (cdI V).toNat V w) (w21 : w.a 21 (cdI V).toNat = 29) (lt : cdI V + 1 ≤ cdI w) (iw : INV w) (hch : ENCH w (gv w 22 (cdI V).toNat) L) (hL : ∀ j ∈ L, enI V ≤ (j : Int) ∧ (j : Int) < enI w ∧ cdI V + 1 ≤ gv w 26 j) (hdf : ∃ j ∈ L, ¬ w.a 28 j = 0) (he : EQT w W) (hchn : CHN w W) (gW : goI W = goI s) (gw : goI s ≤ goI w) (cW : cdI W = cdI w) (W2 : ∀ k : Nat, W.a 21 k = w.a 21 k ∧ W.a 22 k = w.a 22 k ∧ (k ≠ (cdI V).toNat → W.a 23 k = w.a 23 k)) (W23 : (W.a 23 (cdI V).toNat).toInt = cdI W) (hse : seI V ≤ seI W) (w18 : W.i 18 = w.i 18) (wf : ∀ k : Nat, 64 ≤ k → k ≤ 73 → bel k t w W) : TE s W := by
  intro f C hA hC h o lv rs hx
  have cs := hI.cd
  have c1' := i1.cd
  have cw' := iw.cd
  have fv1 := i1.1.f0
  have fw1 := iw.1.f0
  have le1 := k1.2.1.1
  have tw := iw.2.2.2.1
  have ek : ((cdI V).toNat : Int) = cdI V := Int.toNat_of_nonneg c1'.1
  have hx2 := hx.2.1
  have ksV : KP t s V := kA.tr k1 (Nat.le_refl _)
  have kVW : KP t V W := kV.fin he hchn (by omega) (by omega) hse (fun z => by rw [w18]; exact z) (fun k hk => ⟨(W2 k).1, (W2 k).2.1, (W2 k).2.2 (by omega)⟩) wf
  have L1 : LAT noZ A V W := (LAT.rf noZ A V).kp kVW i1.tn (by omega)
  obtain ⟨A1, C1⟩ := L1.use hA hC kA k1
  have enW : enI W = enI w := he.en
  have en0 : 0 ≤ enI s := hI.2.2.2.2.2.2.1.1
  have ken : enI s ≤ enI V := ksV.2.2.1.1
  have nw2 := iw.2.2.2.2.2.2.1
  have aE : ∀ k : Nat, 24 ≤ k → k < 64 → W.a k = w.a k := fun k a b => he.1 k (Or.inr a) (Or.inl b)
  have opf : ∀ k, OPN W k → OPN w k := fun k q => OPN.fin tw.1.1 he hchn (by omega) q
  have AZ : AGZ (ZG (cdI V).toNat L) V w f := by
    obtain ⟨a1, a2, a3, a4, a5, a6, a7, a8⟩ := hA
    have q1 := ksV.2.1.1
    have q3 := ksV.2.2.2.1.1
    have q4 := ksV.2.2.2.2.1.1
    have e3 := he.tt
    have e4 := he.ca
    refine ⟨by omega, by omega, by omega, by rw [← he.i3]; exact a4, fun k k1 k2' => ?_, fun k k1 k2' => ?_, fun k k1 k2' _ => ?_, fun k k1 k2' => ?_⟩
    · obtain ⟨b1, b2, b3⟩ := a5 k (by omega) (by omega)
      exact ⟨b1.trans (W2 k).1, fun z => ⟨b2.trans ((W2 k).2.2 (fun e => z (Or.inl ⟨rfl, e⟩))), fun q => (b3 (fun y => q (opf k y))).trans (W2 k).2.1⟩⟩
    · obtain ⟨b1, b2, b3⟩ := a6 k (by omega) (by omega)
      rw [aE 26 (by omega) (by omega)] at b1
      rw [aE 27 (by omega) (by omega)] at b2
      rw [aE 28 (by omega) (by omega)] at b3
      exact ⟨b1, b3, fun _ => b2⟩
    · obtain ⟨b1, b2, b3⟩ := a7 k (by omega) (by omega)
      rw [aE 30 (by omega) (by omega)] at b1
      rw [aE 31 (by omega) (by omega)] at b2
      rw [aE 32 (by omega) (by omega)] at b3
      exact ⟨b1, b2, b3⟩
    · obtain ⟨b1, b2, b3⟩ := a8 k (by omega) (by omega)
      rw [aE 35 (by omega) (by omega)] at b1
      rw [aE 36 (by omega) (by omega)] at b2
      rw [aE 37 (by omega) (by omega)] at b3
      exact ⟨b1, b2, fun _ => b3⟩
  have CZ : AGC V w C := hC.mid ksV kV (by rw [he.sl]; exact Int.le_refl _) (by rw [he.ca]; exact Int.le_refl _) (fun j _ => he.g (by omega) (by omega) j) (fun j j1 j2 => by rw [he.ca] at j2; omega)
  obtain ⟨S1, z1⟩ := tsa f C AZ CZ h o lv rs (hx.up h d1 (by omega) (by omega) (by omega))
  have c1 := te f C A1 C1 h o lv rs (hx.up h A52 (by omega) (by omega) (by omega))
  obtain ⟨p1, p2, p3, p4⟩ := hA.cell (k := (cdI V).toNat) (o := 29) (x := w.a 22 (cdI V).toNat) (by have := ksV.2.1.1; omega) (by omega) (by rw [(W2 _).1]; exact w21) (W2 _).2.1 (by decide)
  have p3 : gv f 23 (cdI V).toNat = cdI W := by
    rw [p3]; exact W23
  have hchf : ENCH f (gv f 22 (cdI V).toNat) L := by
    have e : gv f 22 (cdI V).toNat = gv w 22 (cdI V).toNat := p2
    rw [e]
    refine hch.of (fun j hj => ?_)
    have := hL j hj
    unfold gv
    rw [(hA.2.2.2.2.2.1 j (by omega) (by omega)).2.1, aE 27 (by omega) (by omega)]
  have g26 : ∀ j ∈ L, gv f 26 j = gv w 26 j := fun j hj => by
    have := hL j hj
    unfold gv
    rw [(hA.2.2.2.2.2.1 j (by omega) (by omega)).1, aE 26 (by omega) (by omega)]
  have len : L.length ≤ 500 := nd_len 500 L hch.nd (fun j hj => by have := hL j hj; omega)
  have enf := hA.2.1
  have cdf := hA.1
  have xlt : gv f 22 (cdI V).toNat < enI f := by
    cases L with
    | nil => have q : gv f 22 (cdI V).toNat < 0 := hchf; omega
    | cons j L => have q := hchf.1; have := hL j (List.mem_cons_self ..); omega
  have c29 : COD f C (cdI V) (h + 1) o lv rs (fun g => ENB s W f g lv rs ∧ FL f g lv (cdI W) (cdI W) (h + 1) o rs) := by
    refine ⟨fun k c => S1 k c ∨ (k = (cdI V).toNat ∧ c = (h + 1, o, lv, false, rs)), fun g hg hT hE => ?_⟩
    have rec1 : ∀ k : Nat, (k : Int) < cdI w → recOK f g k lv (ARM (cdI V).toNat h o lv) rs := fun k hk => by
      refine ⟨by show h ≤ 1300; omega, by show o ≤ 450; have := hx.2.2.1; omega, Or.inr (Or.inr (Or.inl ⟨rfl, by show (((cdI V).toNat : Nat) : Int) < cdI f; omega, ?_⟩))⟩
      show FL f g lv ((k : Int) + 1) (gv f 23 (cdI V).toNat) (h + 1) o rs
      rw [p3]
      exact hE.2.mono (Nat.le_refl _) (by omega)
    obtain ⟨fl, gd⟩ := z1 g hg (fun k c q => hT k c (Or.inl q)) ⟨fun k hk => ⟨rec1 k hk, hE.1.1 k (by omega)⟩, (hE.1.mid ksV V38 (u1 := w) (by omega) : ENB V w f g lv rs).2⟩
    refine ⟨⟨by omega, by omega, fun _ => ⟨(h + 1, o, lv, false, rs), hT _ _ (Or.inr ⟨rfl, rfl⟩), rfl, Nat.le_refl _, rfl, rfl, Or.inr ⟨Nat.le_refl _, Int.le_refl _⟩⟩⟩, fun k c q => ?_⟩
    rcases q with q | ⟨q1, q2⟩
    · exact gd k c q
    subst q1
    subst q2
    have hEn : ∀ j : Nat, entryIn f j 500 (gv f 22 (cdI V).toNat) → FL f g lv (((cdI V).toNat : Int) + 1) (gv f 26 j) h o ((3, (cdI V).toNat, 0, h, o, lv, false, false) :: rs) := fun j hj => by
      have jL := hchf.inn hj
      rw [g26 j jL]
      exact (fl j jL).mono (Nat.le_refl _) (by have := (hL j jL).2.2; omega)
    have hDf : ∃ j : Nat, entryIn f j 500 (gv f 22 (cdI V).toNat) ∧ ¬ gv f 28 j = 0 := by
      obtain ⟨j, j1, j2⟩ := hdf
      refine ⟨j, hchf.mem j1 len, fun q => j2 ?_⟩
      have := hL j j1
      have e : f.a 28 j = w.a 28 j := by rw [(hA.2.2.2.2.2.1 j (by omega) (by omega)).2.2, aE 28 (by omega) (by omega)]
      unfold gv at q
      rw [e] at q
      exact Int32.toInt_inj.mp (by rw [z_t0]; exact q)
    exact (hx.up (s1 := V) (h + 1) d1 (by omega) (by omega) (by omega)).good (fun q => by cases q) (okJ_29 (c := (h + 1, o, lv, false, rs)) p1 ⟨by show 1 ≤ h + 1; omega, xlt, hEn, hDf⟩) (hE.1.1 _ (by omega))
  rw [← cA]
  exact c1.seq c29 (fun g _ hE => hE) (fun g _ hE hF => ⟨hE.1.mid kA A38 (by omega), hF⟩)
end
section
/-! reading: arms: their frame -/
/-- between arms, or before one: L0 are typed, the rest of L points to what comes next -/
def AI (t : Nat) (s V : RS) (γ0 : Nat) (L0 L : List Nat) (w : RS) : Prop := (INV w ∧ tpI w = t ∧ KP t V w) ∧ (w.i 19 = s.i 19 + 1 ∧ goI w = goI s + 1 ∧ w.i 52 = s.i 52 + 1 ∧ w.i 56 = s.i 56 ∧ w.i 38 = s.i 38) ∧ (RATE s w ∧ fr V + 2 ≤ fr w ∧ tkI s + 1 ≤ tkI w) ∧ (w.a 64 t = 19 ∧ (w.a 66 t).toInt = cdI V ∧ FQ w t L) ∧ (cdI V + 1 ≤ cdI w ∧ w.a 21 (cdI V).toNat = 29 ∧ ENCH w (gv w 22 (cdI V).toNat) L ∧ (∀ j ∈ L, enI V ≤ (j : Int) ∧ (j : Int) < enI w ∧ cdI V + 1 ≤ gv w 26 j)) ∧ (w.a 44 γ0 = 3 ∧ gv w 47 γ0 = deI s + 1 ∧ bel 46 (goI s) s w) ∧ (¬ 0 ≤ w.i 18 → TSA L0 L (cdI V).toNat V w) ∧ (∀ j ∈ L0, j ∈ L) ∧ (∀ j ∈ L, j ∈ L0 ∨ gv w 26 j = cdI w)
theorem AI.tbl {t : Nat} {s V : RS} {γ0 : Nat} {L0 L : List Nat} {w w' : RS} (h : AI t s V γ0 L0 L w) (i : INV w') (tb : TBL w w') (k : KP t w w') (h19 : w'.i 19 = w.i 19) (h52 : w'.i 52 = w.i 52) (tp : tpI w' = tpI w) (hf : fr w ≤ fr w') (tk : tkI w ≤ tkI w') (tk2 : tkI w' - tkI w ≤ fr w' - fr w) (loc : ∀ k : Nat, 64 ≤ k → k ≤ 67 → k ≠ 65 → w'.a k t = w.a k t) : AI t s V γ0 L0 L w' := by
  obtain ⟨⟨a1, a2, a3⟩, ⟨b1, b2, b3, b4, b5⟩, ⟨c2, c4, c5⟩, ⟨d1, d2, d3⟩, ⟨e1, e2, e3, e4⟩, ⟨f1, f2, f3⟩, g1, g2, g3⟩ := h
  have ecd := tb.cd
  refine ⟨⟨i, tp.trans a2, a3.tr k (Nat.le_refl _)⟩, ⟨h19.trans b1, tb.go.trans b2, h52.trans b3, (tb.2.2 56 (by omega) (by omega) (by omega) (by omega)).trans b4, (tb.2.2 38 (by omega) (by omega) (by omega) (by omega)).trans b5⟩, ⟨c2.tr (tb.rate hf tk2), by omega, by omega⟩, ⟨(loc 64 (by omega) (by omega) (by omega)).trans d1, by rw [loc 66 (by omega) (by omega) (by omega)]; exact d2, ?_⟩, ⟨by omega, by rw [tb.1 21 (by omega)]; exact e2, ?_, fun j hj => ?_⟩, ⟨by rw [tb.1 44 (by omega)]; exact f1, by rw [tb.g (by decide)]; exact f2, fun j hj => by rw [tb.1 46 (by omega)]; exact f3 j hj⟩, fun z => (g1 (fun q => z (k.1.2 q))).tbl tb, g2, fun j hj => by rw [tb.g (by decide), ecd]; exact g3 j hj⟩
  · unfold FQ at d3 ⊢
    rw [loc 67 (by omega) (by omega) (by omega)]
    exact d3
  · rw [tb.g (by decide)]
    exact e3.of (fun j _ => tb.g (by decide) j)
  · rw [tb.en, tb.g (by decide)]
    exact e4 j hj
theorem AI.lx {t : Nat} {s V : RS} {γ0 : Nat} {L0 L : List Nat} {w w' : RS} (h : AI t s V γ0 L0 L w) (i : INV w') (x : LX w w') (h19 : w'.i 19 = w.i 19) (hf : fr w ≤ fr w') (tk : tkI w ≤ tkI w') (tk2 : tkI w' - tkI w ≤ fr w' - fr w) : AI t s V γ0 L0 L w' := h.tbl i x.tbl ((KP.rf t w).lx x) h19 (x.2.2.1 52 (by omega) (by omega)) x.tp hf tk tk2 (fun k _ _ _ => by rw [x.1])
theorem AI.loc {t : Nat} {s V : RS} {γ0 : Nat} {L0 L : List Nat} {w : RS} (h : AI t s V γ0 L0 L w) {k : Nat} (v : Int32) (h1 : k = 65 ∨ 68 ≤ k) (h2 : k ≤ 73) : AI t s V γ0 L0 L (w.setA k t v) := h.tbl (h.1.1.loc t v (by omega) (by omega)) (TBL.loc w t v (by omega) (by omega)) ((KP.rf t w).loc t v (by omega) (by omega) (Nat.le_refl _)) rfl rfl rfl (Int.le_refl _) (Int.le_refl _) (by show tkI w - tkI w ≤ fr w - fr w; omega) (fun k9 _ _ _ => congrFun (setA_nk (by omega)) t)
theorem AI.kpe {t : Nat} {s V : RS} {γ0 : Nat} {L0 L : List Nat} {y : Int32} {u U : RS} (hg : AI t s V γ0 L0 L u) (iV : INV V) (en : ENT t (cdI V).toNat L y u U) : KP t V U := by
  obtain ⟨⟨a1, a2, a3⟩, ⟨b1, b2, b3, b4, b5⟩, ⟨c2, c4, c5⟩, ⟨d1, d2, d3⟩, ⟨e1, e2, e3, e4⟩, ⟨f1, f2, f3⟩, g1, g2, g3⟩ := hg
  have cV := iV.cd
  exact a3.ent en (by rw [e2]; decide) (by omega) iV.2.2.2.2.2.2.1.1 (fun j hj => (e4 j hj).1)
theorem AI.ent {t : Nat} {s V : RS} {γ0 : Nat} {L0 L : List Nat} {y : Int32} {u U : RS} (hg : AI t s V γ0 L0 L u) (iV : INV V) (iU : INV U) (en : ENT t (cdI V).toNat L y u U) (hsl : 2 * (enI u + 1 - enI s) ≤ fr u - fr s) : AI t s V γ0 L0 (L ++ [(enI u).toNat]) U := by
  have kU := hg.kpe iV en
  obtain ⟨⟨a1, a2, a3⟩, ⟨b1, b2, b3, b4, b5⟩, ⟨c2, c4, c5⟩, ⟨d1, d2, d3⟩, ⟨e1, e2, e3, e4⟩, ⟨f1, f2, f3⟩, g1, g2, g3⟩ := hg
  have eu0 : 0 ≤ enI u := a1.2.2.2.2.2.2.1.1
  have ee : ((enI u).toNat : Int) = enI u := Int.toNat_of_nonneg eu0
  have ecd := en.cd
  have een := en.2.1
  have fU : fr U = fr u := by unfold fr; rw [en.1 11 (by decide)]
  have tU : tkI U = tkI u := by unfold tkI; rw [en.1 17 (by decide)]
  have kV : enI V ≤ enI u := a3.2.2.1.1
  have o26 : ∀ j ∈ L, gv U 26 j = gv u 26 j := fun j hj => by
    have := (e4 j hj).2.1
    unfold gv; rw [en.2.2.2.2.2.2.2.1 26 j (by omega) (by omega) (by omega) (Or.inl (by decide))]
  have n26 : gv U 26 (enI u).toNat = cdI u := by unfold gv; rw [en.2.2.2.2.2.2.2.2.1]; rfl
  refine ⟨⟨iU, (congrArg Int32.toInt (en.1 63 (by decide))).trans a2, kU⟩, ⟨(en.1 19 (by decide)).trans b1, en.go.trans b2, (en.1 52 (by decide)).trans b3, (en.1 56 (by decide)).trans b4, (en.1 38 (by decide)).trans b5⟩, ⟨?_, by omega, by omega⟩, ⟨by rw [en.2.2.2.1 64 (by decide) (by omega) (by decide)]; exact d1, by rw [en.2.2.2.1 66 (by decide) (by omega) (by decide)]; exact d2, en.fq eu0⟩, ⟨by omega, by rw [en.2.2.2.1 21 (by decide) (by omega) (by decide)]; exact e2, en.2.2.2.2.2.2.2.2.2.2.2, fun j hj => ?_⟩, ⟨by rw [en.2.2.2.1 44 (by decide) (by omega) (by decide)]; exact f1, by rw [en.g (by decide) (by omega) (by decide)]; exact f2, fun j hj => by rw [en.2.2.2.1 46 (by decide) (by omega) (by decide)]; exact f3 j hj⟩, fun z => (g1 (fun q => z (by rw [en.1 18 (by decide)]; exact q))).ent en (by rw [e2]; decide) eu0 (fun j hj => (e4 j (g2 j hj)).2.1), fun j hj => List.mem_append_left _ (g2 j hj), fun j hj => ?_⟩
  · have q3 : trI U = trI u := by unfold trI; rw [en.1 29 (by decide)]
    have q4 : caI U = caI u := by unfold caI; rw [en.1 33 (by decide)]
    have q5 : slI U = slI u := by unfold slI; rw [en.1 42 (by decide)]
    have q6 : peI U = peI u := by unfold peI; rw [en.1 59 (by decide)]
    unfold RATE at c2 ⊢
    rw [ecd, een, q3, q4, q5, q6, fU, tU]
    omega
  · rcases List.mem_append.mp hj with q | q
    · obtain ⟨j1, j2, j3⟩ := e4 j q
      rw [o26 j q]
      exact ⟨j1, by omega, j3⟩
    · rcases List.mem_cons.mp q with q | q
      · rw [q, n26]
        exact ⟨by omega, by omega, e1⟩
      · exact absurd q List.not_mem_nil
  · rcases List.mem_append.mp hj with q | q
    · rw [o26 j q, ecd]
      exact g3 j q
    · rcases List.mem_cons.mp q with q | q
      · right; rw [q, n26, ecd]
      · exact absurd q List.not_mem_nil
/-- an arm is laid -/
theorem AI.add {t : Nat} {s V : RS} {γ0 : Nat} {L0 L : List Nat} {B w : RS} (hg : AI t s V γ0 L0 L B) (iV : INV V) (iw : INV w) (tp : tpI w = t) (k : KP t B w) (w19 : w.i 19 = B.i 19) (w43 : w.i 43 = B.i 43) (w52 : w.i 52 = B.i 52) (w56 : w.i 56 = B.i 56) (w38 : w.i 38 = B.i 38) (ra : RATE B w) (hf : fr B ≤ fr w) (tk : tkI B ≤ tkI w) (g46 : bel 46 (goI s) B w) (g0 : (γ0 : Int) = goI s) (loc : ∀ k : Nat, 64 ≤ k → k ≤ 67 → k ≠ 65 → w.a k t = B.a k t) (hp : ¬ 0 ≤ w.i 18 → PCE (cdI V).toNat V B w) : AI t s V γ0 L L w := by
  obtain ⟨⟨a1, a2, a3⟩, ⟨b1, b2, b3, b4, b5⟩, ⟨c2, c4, c5⟩, ⟨d1, d2, d3⟩, ⟨e1, e2, e3, e4⟩, ⟨f1, f2, f3⟩, g1, g2, g3⟩ := hg
  have cV := iV.cd
  have ek : ((cdI V).toNat : Int) = cdI V := Int.toNat_of_nonneg cV.1
  have kc := k.2.1
  have ke := k.2.2.1
  have kg := k.2.2.2.2.2.2.1
  have kc1 := kc.1
  have ke1 := ke.1
  have gw : goI w = goI B := by unfold goI; rw [w43]
  refine ⟨⟨iw, tp, a3.tr k (Nat.le_refl _)⟩, ⟨w19.trans b1, gw.trans b2, w52.trans b3, w56.trans b4, w38.trans b5⟩, ⟨c2.tr ra, by omega, by omega⟩, ⟨(loc 64 (by omega) (by omega) (by omega)).trans d1, by rw [loc 66 (by omega) (by omega) (by omega)]; exact d2, ?_⟩, ⟨by omega, by rw [kc.2.1 _ (by omega)]; exact e2, ?_, fun j hj => ?_⟩, ⟨by rw [kg.2.1 γ0 (by omega)]; exact f1, ?_, f3.tr g46 (Int.le_refl _)⟩, fun z => (g1 (fun q => z (k.1.2 q))).add (hp z) a3 k a1.tn (by omega) (by omega) (fun j hj => (e4 j hj).2.1) g3, fun j hj => hj, fun j hj => Or.inl hj⟩
  · unfold FQ at d3 ⊢
    rw [loc 67 (by omega) (by omega) (by omega)]
    exact d3
  · have e : gv w 22 (cdI V).toNat = gv B 22 (cdI V).toNat := by unfold gv; rw [kc.2.2.1 _ (by omega)]
    rw [e]
    refine e3.of (fun j hj => ?_)
    unfold gv; rw [ke.2.2.2.1 j (e4 j hj).2.1]
  · obtain ⟨j1, j2, j3⟩ := e4 j hj
    have e : gv w 26 j = gv B 26 j := by unfold gv; rw [ke.2.2.1 j j2]
    rw [e]
    exact ⟨j1, by omega, j3⟩
  · unfold gv; rw [kg.2.2.1 γ0 (by omega)]; exact f2
end
section
/-! reading: arms: one arm -/
theorem PRL.arm {u : RS} {γ0 : Nat} (hg : goI u = (γ0 : Int) + 1) (h : u.a 44 γ0 = 3) : PRL u := by
  refine ⟨fun γ a1 a2 a3 => ?_, fun γ a1 => ?_⟩
  · by_cases q : γ = γ0
    · subst q; exact absurd h a1.2.1
    · exact absurd h (a1.2.2 γ0 (by have := a1.1; omega) (by omega))
  · have := (a1.2 γ0 (by have := a1.1; omega) (by omega)).1
    rw [h] at this
    exact absurd this (by decide)
theorem PCE.tblb {c0 : Nat} {V u B w : RS} (h : PCE c0 V B w) (tb : TBL u B) : PCE c0 V u w := by
  intro f C hA hC h' o v rs hx
  have e1 := tb.cd
  have e2 := tb.en
  have e3 := tb.tt
  have e4 := tb.ca
  have e5 := tb.sl
  unfold AG0 at hA
  unfold AGC at hC
  rw [← e1, ← e2, ← e3, ← e4] at hA
  rw [← e5, ← e4] at hC
  obtain ⟨S, hS⟩ := h f C hA hC h' o v rs hx
  exact ⟨S, fun g a b c => by rw [← e1]; exact hS g a b c⟩
theorem G68.kp {t : Nat} {L : List Nat} {B w : RS} (h : G68 t L B) (k : KP t B w) (hL : ∀ j ∈ L, (j : Int) < enI B) (l : w.a 68 t = B.a 68 t) : G68 t L w := by
  rcases h with h | ⟨j, j1, j2⟩
  · left; rw [l]; exact h
  · right; exact ⟨j, j1, by rw [k.2.2.1.2.2.2.2 j (hL j j1)]; exact j2⟩
theorem AR5 {N b : Nat} (hN : 1000 ≤ N) (hx : 1 ≤ b → RUNE N 16 4 11 24 (b - 1)) (hl : 1 ≤ b → RUNL N (b - 1)) {m : Nat} {s V w : RS} {t γ0 : Nat} {L0 L : List Nat} {P : RS → Prop} (hI : INV s) (hb : 2 * (t : Int) ≤ fr s + 12 * op s + 12) (h9 : t < 995) (hc : 900 - fr s ≤ b) (hF : ∀ u, FS' s u → P u) (kV : KP t s V) (i1 : INV V) (d1 : V.i 52 = s.i 52) (fV : fr s + 3 ≤ fr V) (V38 : V.i 38 = s.i 38) (g0 : (γ0 : Int) = goI s) (hg : AI t s V γ0 L0 L w) (h68 : G68 t L w) (w65 : w.a 65 t = 5) (hn : 36000 + 40 ≤ (m : Int) + 40 * fr w) (hK : ∀ (m' : Nat) (w' : RS), AI t s V γ0 L L w' → G68 t L w' → w'.a 65 t = 2 → fr w + 1 ≤ fr w' → 2 * (enI w' - enI w) ≤ fr w' - fr w → (m : Int) + 40 * fr w + 20 ≤ m' + 40 * fr w' → ok (f_X12_parse_10 N (m' + 1) w') P) : ok (f_X12_parse_10 N (m + 1) w) P := by
  obtain ⟨⟨a1, a2, a3⟩, ⟨b1, b2, b3, b4, b5⟩, ⟨c2, c4, c5⟩, ⟨d1', d2, d3⟩, ⟨e1, e2, e3, e4⟩, ⟨f1, f2, f3⟩, g1, g2, g3⟩ := id hg
  have fw := a1.1.f0
  have ksw : KP t s w := kV.tr a3 (Nat.le_refl _)
  have ibx : ib (w.i 63) 1000 := tp_ib a2 (by omega)
  have nx : (w.i 63).toNatClampNeg = t := tp_nat a2
  have ows : op w = op s + 1 := by
    have o1 := a1.op
    have o2 := hI.op
    have e1 : (1 : Int32).toInt = 1 := by decide
    have a : op w = (w.i 19).toInt := rfl
    have b : op s = (s.i 19).toInt := rfl
    rw [a, b1, toInt_add] <;> rw [e1] <;> omega
  refine lp_19 a2 (by omega) a1.2.2.1 d1' ?_
  unfold f_X12_arms
  rw [if_pos ibx, nx, if_neg (by rw [w65]; decide), if_neg (by rw [w65]; decide), if_neg (by rw [w65]; decide), if_neg (by rw [w65]; decide), if_neg (by rw [w65]; decide), if_pos w65]
  obtain ⟨q, eq, z1, z2⟩ := NDO hN a1 306 (by decide)
  rw [eq]
  clear eq
  show ok ((if (q.2.i 15) = 0 then (if (q.2.i 10) = 123 then (f_X12_open N q.2 123).bind fun p65 => (f_X12_then N (RS.setA p65.2 71 t (p65.2.i 38)) 6 1).bind fun p67 => some p67 else f_X12_arms_400 N q.2) else f_X12_arms_400 N q.2 : Option RS).bind fun p => f_X12_parse_10 N m p) P
  rcases z2 with z2 | ⟨z2, z3, z4, z5, z6, z7⟩
  · rw [if_neg z2]
    unfold f_X12_arms_400
    rw [p_th 7 16 (z1.tp.trans a2) (by omega)]
    exact lp_f (u := TH q.2 t 7 16) z2 (hF _ (FS'.th (FS'.of ksw.1.1 z1 z2 a1.r))) (by omega)
  obtain ⟨B, hB⟩ : ∃ B, B = q.2 := ⟨_, rfl⟩
  rw [← hB] at z1 z2 z4 z5 z6 z7 ⊢
  clear hB
  rw [if_pos z2]
  have hgB : AI t s V γ0 L0 L B := hg.lx z4 z1 z5 (by omega) (by omega) (by omega)
  have h68B : G68 t L B := by unfold G68 at h68 ⊢; rw [z1.1]; exact h68
  have enB : enI B = enI w := z1.tbl.en
  have oB : op B = op w := by unfold op; rw [z5]
  have fBf := z4.1.f0
  have tB : tpI B = t := hgB.1.2.1
  have kVB := hgB.1.2.2
  have ksB : KP t s B := kV.tr kVB (Nat.le_refl _)
  have gB : goI B = (γ0 : Int) + 1 := by rw [hgB.2.1.2.1]; omega
  have B44 : B.a 44 γ0 = 3 := hgB.2.2.2.2.2.1.1
  have e52 : B.i 52 = s.i 52 + 1 := hgB.2.1.2.2.1
  have dBs : deI B = deI s + 1 := by
    have e1 : (1 : Int32).toInt = 1 := by decide
    have ds := hI.2.2.2.2.2.2.2.2.2.2.2.2.1
    have ds0 : 0 ≤ (s.i 52).toInt := ds.1
    have hop := hI.op
    have hff := hI.1.f0
    have ds1 : 4 * (s.i 52).toInt ≤ fr s + 2 * op s + 2 := ds.2
    unfold deI
    rw [e52, toInt_add] <;> rw [e1] <;> omega
  have dV : deI V = deI s := by unfold deI; rw [d1]
  have dB9 : deI B ≤ 250 := by
    have nn := z4.2.2.2.2.2.2.2.2.2.2.2.2.1
    have hop := z4.op
    omega
  have B38 : B.i 38 = V.i 38 := hgB.2.1.2.2.2.2.trans V38.symm
  have hLB : ∀ j ∈ L, (j : Int) < enI B := fun j hj => (hgB.2.2.2.2.1.2.2.2 j hj).2.1
  have cBc := z4.cd
  by_cases c123 : B.i 10 = 123
  case neg =>
    rw [if_neg c123]
    unfold f_X12_arms_400
    rw [p_th 7 16 tB (by omega)]
    show ok (f_X12_parse_10 N m (TH B t 7 16)) P
    refine CALL (hx (by omega)) z4 tB (by omega) (by omega) (by omega) (by omega) (fun u hu => hF u (FS'.kp ksB hu)) (fun m2 v hv hm2 => ?_)
    obtain ⟨v1, v2, v3, v4, v5, v6, v7, v8, v9, v10, v11, v12⟩ := hv
    have fv := v1.1.f0
    have cv := v1.cd
    obtain ⟨m3, rfl⟩ : ∃ m3, m2 = m3 + 1 := ⟨m2 - 1, by omega⟩
    have push2 : ((m3 + 1 : Nat) : Int) = (m3 : Int) + 1 := by omega
    rw [push2] at hm2
    refine lp_19 v2 (by omega) v1.2.2.1 ((v12 64 (by omega) (by omega) (by omega)).trans hgB.2.2.2.1.1) ?_
    unfold f_X12_arms
    rw [if_pos (tp_ib v2 (by omega)), tp_nat v2, if_neg (by rw [v11]; decide), if_neg (by rw [v11]; decide), if_neg (by rw [v11]; decide), if_neg (by rw [v11]; decide), if_neg (by rw [v11]; decide), if_neg (by rw [v11]; decide), if_neg (by rw [v11]; decide)]
    obtain ⟨r, er, y1, y2⟩ := NDO hN v1 59 (by decide)
    rw [er]
    clear er
    have ecr : cdI r.2 = cdI v := y1.tbl.cd
    show ok (((f_X12_emit N r.2 30 0).bind fun p79 => some (RS.setA p79.2 65 t 2)).bind fun p => f_X12_parse_10 N m3 p) P
    rw [p_em 30 0 (by omega) (by omega)]
    show ok (f_X12_parse_10 N m3 ((EM r.2 30 0).setA 65 t 2)) P
    have ksv : KP t s v := ksB.tr v3 (Nat.le_refl _)
    rcases y2 with y2 | ⟨y2, y3, y4, y5, y6, y7⟩
    · exact lp_f (u := (EM r.2 30 0).setA 65 t 2) y2 (hF _ (FS'.loc (FS'.em (FS'.of ksv.1.1 y1 y2 v1.r) 30 0) t 2 (by omega) (by omega))) (by omega)
    obtain ⟨w', hw'⟩ : ∃ w', w' = (EM r.2 30 0).setA 65 t 2 := ⟨_, rfl⟩
    have fr' := y4.1.f0
    have kvw : KP t v w' := by rw [hw']; exact (((KP.rf t v).lx y1).em cv.1 (by omega)).loc t _ (by omega) (by omega) (Nat.le_refl _)
    have iiw : INV w' := by
      rw [hw']
      refine (y4.em ?_).loc t _ (by omega) (by omega)
      have := v1.2.2.2.2.2.1; omega
    have cw' : cdI w' = cdI v + 1 := by rw [hw']; exact (EM.cd (u := r.2) (o := 30) (x := 0) (by omega) (by omega)).trans (by rw [ecr])
    have wi : ∀ j : Nat, j ≠ 20 → w'.i j = r.2.i j := fun j hj => by rw [hw']; exact EM.i hj
    have w21 : w'.a 21 (cdI v).toNat = 30 := by rw [hw', setA_nk (by decide), EM.a21, if_pos (by rw [ecr])]
    have wa : ∀ k : Nat, k ≠ 21 → k ≠ 22 → k ≠ 23 → k ≠ 65 → w'.a k = v.a k := fun k h1 h2 h3 h4 => by rw [hw', setA_nk h4, EM.a h1 h2 h3, y1.1]
    have w65' : w'.a 65 t = 2 := by rw [hw']; exact setA_at
    have raw : RATE B w' := by
      rw [hw']
      exact RATE.em (o := 30) (x := 0) (v6.tr (y1.tbl.rate (by omega) (by omega))) (by omega) (by omega) (by unfold RATE at v6; omega)
    rw [← hw']
    clear hw'
    have fw' : fr w' = fr r.2 := by unfold fr; rw [wi 11 (by decide)]
    have tw' : tkI w' = tkI r.2 := by unfold tkI; rw [wi 17 (by decide)]
    have kBw : KP t B w' := v3.tr kvw (Nat.le_refl _)
    have rx : ∀ j : Nat, 18 ≤ j → j ≠ 19 → j ≠ 20 → w'.i j = v.i j := fun j h1 h2 h3 => (wi j h3).trans (y1.2.2.1 j (by omega) h2)
    have nai : AI t s V γ0 L L w' := hgB.add i1 iiw (by unfold tpI; rw [rx 63 (by omega) (by omega) (by omega)]; exact v2) kBw ((wi 19 (by decide)).trans (y5.trans v4.1)) ((rx 43 (by omega) (by omega) (by omega)).trans v4.2.1) ((rx 52 (by omega) (by omega) (by omega)).trans v4.2.2.1) ((rx 56 (by omega) (by omega) (by omega)).trans v4.2.2.2) ((rx 38 (by omega) (by omega) (by omega)).trans v5) raw (by omega) (by omega) (fun j hj => by rw [wa 46 (by decide) (by decide) (by decide) (by decide)]; exact v10.1 j (by omega)) g0 (fun k h1 h2 h3 => by rw [wa k (by omega) (by omega) (by omega) h3]; exact v12 k h1 (by omega) h3) (fun z => PCE.expr (v9 (fun q => z (kvw.1.2 q))) kVB v3 v1 kvw (by unfold goI; rw [rx 43 (by omega) (by omega) (by omega)]; exact Int.le_refl _) cw' w21 B38 (by omega) v4.2.2.1 (by omega) v7 dB9)
    obtain ⟨m4, rfl⟩ : ∃ m4, m3 = m4 + 1 := ⟨m3 - 1, by omega⟩
    have push4 : ((m4 + 1 : Nat) : Int) = (m4 : Int) + 1 := by omega
    rw [push4] at hm2
    refine hK m4 w' nai (h68B.kp kBw hLB (by rw [wa 68 (by decide) (by decide) (by decide) (by decide)]; exact v12 68 (by omega) (by omega) (by omega))) w65' (by omega) ?_ (by omega)
    unfold RATE at raw
    omega
  rw [if_pos c123]
  obtain ⟨p, ep, hpp⟩ := OPO (t := t) hN z4 123 (by decide)
  rw [ep]
  clear ep
  show ok (((f_X12_then N (RS.setA p.2 71 t (p.2.i 38)) 6 1).bind fun p67 => some p67).bind fun p => f_X12_parse_10 N m p) P
  rcases hpp with ⟨p1, p2, p3⟩ | ⟨p1, p2, p3, q1, q2, q3, q4, q5, q6, q7, q8, q9, q10, q11⟩
  · rw [p_th 6 1 (u := RS.setA p.2 71 t (p.2.i 38)) (p2.tp.trans tB) (by omega)]
    exact lp_f (u := TH (RS.setA p.2 71 t (p.2.i 38)) t 6 1) p1 (hF _ (FS'.th (FS'.loc (FS'.of ksB.1.1 p2 p1 z4.r) t _ (by omega) (by omega)))) (by omega)
  obtain ⟨O, hO⟩ : ∃ O, O = p.2.setA 71 t (p.2.i 38) := ⟨_, rfl⟩
  have iO : O.i = p.2.i := by rw [hO]; rfl
  have aO : ∀ k : Nat, k ≠ 71 → O.a k = B.a k := fun k hk => by rw [hO, setA_nk hk, q10]
  have O71 : O.a 71 t = B.i 38 := by rw [hO, setA_at]; exact q11.i38
  have tbO : TBL B O := by rw [hO]; exact q4.tr (TBL.loc _ t _ (by omega) (by omega))
  have kO : KP t B O := by rw [hO]; exact q3.loc t _ (by omega) (by omega) (Nat.le_refl _)
  have iiO : INV O := by rw [hO]; exact q1.loc t _ (by omega) (by omega)
  have tO : tpI O = t := by rw [hO]; exact q2.trans tB
  rw [← hO, p_th 6 1 tO (by omega)]
  clear hO
  show ok (f_X12_parse_10 N m (TH O t 6 1)) P
  have fO : fr O = fr p.2 := by unfold fr; rw [iO]
  have tkO : tkI O = tkI p.2 := by unfold tkI; rw [iO]
  have oO : op O = op p.2 := by unfold op; rw [iO]
  have fOf := iiO.1.f0
  have gO : goI O = (γ0 : Int) + 1 := tbO.go.trans gB
  have O44 : O.a 44 γ0 = 3 := by rw [aO 44 (by decide)]; exact B44
  have ksO : KP t s O := ksB.tr kO (Nat.le_refl _)
  refine CALLL (hl (by omega)) iiO (PRL.arm gO O44) tO (by omega) (by omega) (by omega) (by omega) (fun u hu => hF u (FS'.kp ksO hu)) (fun m2 v hv _ hm2 => ?_)
  obtain ⟨v1, v2, v3, v4, v5, v6, v7, v8, v9, v10, v11⟩ := hv
  have fv := v1.1.f0
  have cv := v1.cd
  obtain ⟨m3, rfl⟩ : ∃ m3, m2 = m3 + 1 := ⟨m2 - 1, by omega⟩
  have push2 : ((m3 + 1 : Nat) : Int) = (m3 : Int) + 1 := by omega
  rw [push2] at hm2
  refine lp_19 v2 (by omega) v1.2.2.1 ((v11 64 (by omega) (by omega) (by omega)).trans (by rw [aO 64 (by decide)]; exact hgB.2.2.2.1.1)) ?_
  unfold f_X12_arms
  rw [if_pos (tp_ib v2 (by omega)), tp_nat v2, if_neg (by rw [v10]; decide), if_neg (by rw [v10]; decide), if_neg (by rw [v10]; decide), if_neg (by rw [v10]; decide), if_neg (by rw [v10]; decide), if_neg (by rw [v10]; decide), if_pos v10]
  have nt : ∃ u : RS, (if (v.i 75) = 0 then f_X12_arms_435 N v (v.i 63) else (if (v.i 10) = 125 then (f_X12_note N v (v.i 11)).bind fun p75 => f_X12_arms_435 N p75 (v.i 63) else f_X12_arms_435 N v (v.i 63)) : Option RS) = f_X12_arms_435 N u (v.i 63) ∧ INV u ∧ KP t v u ∧ TBL v u ∧ (∀ j : Nat, j ≠ 18 → u.i j = v.i j) ∧ u.a = v.a ∧ (v.i 75 = 1 → v.i 10 = 125 → 0 ≤ u.i 18) := by
    have st : INV v ∧ KP t v v ∧ TBL v v ∧ (∀ j : Nat, j ≠ 18 → v.i j = v.i j) ∧ v.a = v.a := ⟨v1, KP.rf t v, TBL.rf v, fun _ _ => rfl, rfl⟩
    by_cases c1 : v.i 75 = 0
    · rw [if_pos c1]
      exact ⟨v, rfl, v1, KP.rf t v, TBL.rf v, fun _ _ => rfl, rfl, fun q => by rw [c1] at q; exact absurd q (by decide)⟩
    rw [if_neg c1]
    by_cases c2 : v.i 10 = 125
    · rw [if_pos c2, e_note]
      by_cases cl : v.i 15 = 0 ∧ ¬ 0 ≤ v.i 18
      · rw [if_pos cl]
        exact ⟨v.setI 18 (v.i 11), rfl, v1.i18 _, (KP.rf t v).i18 _ v1.1.1, TBL.i18 v _, fun j hj => if_neg hj, rfl, fun _ _ => v1.1.1⟩
      · rw [if_neg cl]
        refine ⟨v, rfl, v1, KP.rf t v, TBL.rf v, fun _ _ => rfl, rfl, fun _ _ => ?_⟩
        by_cases q : 0 ≤ v.i 18
        · exact q
        · exact absurd ⟨v1.2.2.1, q⟩ cl
    · rw [if_neg c2]
      exact ⟨v, rfl, v1, KP.rf t v, TBL.rf v, fun _ _ => rfl, rfl, fun _ q => absurd q c2⟩
  obtain ⟨u, eu, u1, u2, u3, u4, u5, u6⟩ := nt
  rw [eu]
  clear eu
  unfold f_X12_arms_435
  obtain ⟨r, er, y1, y2⟩ := SHO hN u1 125 (by decide)
  rw [er]
  clear er
  show ok ((if ib (v.i 63) 1000 then some (RS.setA (RS.setI r.2 38 (r.2.a 71 ((v.i 63).toNatClampNeg))) 65 ((v.i 63).toNatClampNeg) 2) else none : Option RS).bind fun p => f_X12_parse_10 N m3 p) P
  rw [if_pos (tp_ib v2 (by omega)), tp_nat v2]
  show ok (f_X12_parse_10 N m3 ((r.2.setI 38 (r.2.a 71 t)).setA 65 t 2)) P
  have kOu : KP t O u := v3.tr u2 (Nat.le_refl _)
  have ksu : KP t s u := ksO.tr kOu (Nat.le_refl _)
  rcases y2 with y2 | ⟨y2, y3, y4, y5, y6⟩
  · exact lp_f (u := (r.2.setI 38 (r.2.a 71 t)).setA 65 t 2) y2 (hF _ (FS'.loc (FS'.i38 (FS'.of ksu.1.1 y1 y2 u1.r) _) t 2 (by omega) (by omega))) (by omega)
  have r71 : r.2.a 71 t = B.i 38 := by rw [y1.1, u5, v11 71 (by omega) (by omega) (by omega)]; exact O71
  rw [r71]
  obtain ⟨X, hX⟩ : ∃ X, X = r.2.setI 38 (B.i 38) := ⟨_, rfl⟩
  have X38 : X.i 38 = B.i 38 := by rw [hX]; rfl
  have iX : ∀ j : Nat, j ≠ 38 → X.i j = r.2.i j := fun j hj => by rw [hX]; exact if_neg hj
  have aX : X.a = r.2.a := by rw [hX]; rfl
  have bX : X.b = r.2.b := by rw [hX]; rfl
  have tX : TBS r.2 X := by rw [hX]; exact TBS.i38 _ _
  rw [← hX]
  clear hX
  have rv : ∀ j : Nat, 20 ≤ j → r.2.i j = v.i j := fun j h1 => (y1.2.2.1 j (by omega) (by omega)).trans (u4 j (by omega))
  have kBu : KP t B u := kO.tr kOu (Nat.le_refl _)
  have kBr : KP t B r.2 := kBu.lx y1
  have seX : seI X = seI B := by unfold seI; rw [X38]
  have kBX : KP t B X := kBr.tbs tX (by omega) (fun z => by rw [iX 18 (by decide)]; exact z) (fun k _ _ j _ => by rw [aX])
  have tabu : TAB r.2 := u1.2.2.2.1.lx y1
  have ser : seI B ≤ seI r.2 := kBr.2.2.2.2.2.1.1
  have r75 : r.2.i 75 = 0 ∨ r.2.i 75 = 1 := by rw [rv 75 (by omega)]; exact v1.r
  have tabX : TAB X := tabu.tbs tX (by omega) (iX 52 (by decide)) (by rw [iX 75 (by decide)]; exact r75)
  have e19 : X.i 19 = B.i 19 := by
    rw [iX 19 (by decide), y4, u4 19 (by decide), v4.1, iO, q5, Int32.add_sub_cancel]
  have sm : SAME B X := ⟨e19, by rw [iX 43 (by decide), rv 43 (by omega), v4.2.1, iO]; exact q11.2.2.1 43 (by omega) (by omega), by rw [iX 52 (by decide), rv 52 (by omega), v4.2.2.1, iO]; exact q7, by rw [iX 56 (by decide), rv 56 (by omega), v4.2.2.2, iO]; exact q11.2.2.1 56 (by omega) (by omega)⟩
  have fu : fr u = fr v := by unfold fr; rw [u4 11 (by decide)]
  have tku : tkI u = tkI v := by unfold tkI; rw [u4 17 (by decide)]
  have fX : fr X = fr r.2 := by unfold fr; rw [iX 11 (by decide)]
  have tkX : tkI X = tkI r.2 := by unfold tkI; rw [iX 17 (by decide)]
  have rt0 : RATE B r.2 := (((tbO.rate (by omega) (by omega)).tr v5).tr (u3.rate (by omega) (by omega))).tr (y1.tbl.rate (by omega) (by omega))
  have rt : RATE B X := by
    have h1 : cdI X = cdI r.2 := tX.cd
    have h2 := tX.1.en
    have h3 := tX.1.tt
    have h4 := tX.1.ca
    have h5 := tX.1.sl
    have h6 := tX.1.pe
    unfold RATE at rt0 ⊢
    rw [h1, h2, h3, h4, h5, h6, fX, tkX]
    exact rt0
  have sn : SNW B X := SNW.eq X38 kBX.2.2.2.2.2.1.2.1
  have lX : LXI X := y1.2.2.2.1.of (iX 2 (by decide)) (iX 10 (by decide)) (iX 11 (by decide)) (iX 12 (by decide)) (iX 14 (by decide)) (by rw [bX])
  have iiX : INV X := z4.mkS kBX lX ((iX 15 (by decide)).trans y2) tabX sm sn rt (by omega) (by omega)
  have g46 : bel 46 (goI s) B X := fun j hj => by
    rw [aX, y1.1, u5]
    have kg := v3.2.2.2.2.2.2.1
    rcases kg.2.2.2.2.2 j (by omega) with q | q
    · rw [q, aO 46 (by decide)]
    · exact absurd q ((PRL.arm gO O44).2 j)
  have nai : AI t s V γ0 L L X := hgB.add i1 iiX (by unfold tpI; rw [iX 63 (by decide)]; exact y1.tp.trans ((congrArg Int32.toInt (u4 63 (by decide))).trans v2)) kBX e19 sm.2.1 sm.2.2.1 sm.2.2.2 X38 rt (by omega) (by omega) g46 g0 (fun k h1 h2 h3 => by rw [aX, y1.1, u5, v11 k h1 (by omega) h3, aO k (by omega)]) (fun z => by
    have z1 : ¬ 0 ≤ u.i 18 := fun q => z (by rw [iX 18 (by decide), y1.2.2.1 18 (by omega) (by omega)]; exact q)
    have z2 : ¬ 0 ≤ v.i 18 := fun q => z1 (u2.1.2 q)
    have nr : ¬ v.i 75 = 1 := fun q => z1 (u6 q (by rw [← u4 10 (by decide)]; exact y3))
    have kvX : KP t v (X.setI 38 (v.i 38)) := by
      have kvr : KP t v r.2 := u2.lx y1
      refine kvr.tbs (W := X.setI 38 (v.i 38)) (tX.tr (TBS.i38 _ _)) (Int.le_refl _) (fun z => ?_) (fun k _ _ j _ => by show X.a k j = _; rw [aX])
      show 0 ≤ X.i 18
      rw [iX 18 (by decide)]; exact z
    exact (PCE.blk (γ0 := γ0) (w := X) (v9 z2) (kVB.tr kO (Nat.le_refl _)) v3 v4 v1 kvX (by rw [tX.go]; unfold goI; rw [rv 43 (by omega)]; exact Int.le_refl _) (by rw [tX.cd]; unfold cdI; rw [rv 20 (by omega)]) (by rw [iO, q11.i38]; exact B38) (by have : deI O = deI B := by { unfold deI; rw [iO]; rw [q7] }; omega) (by omega) fOf.2 (by have : deI O = deI B := by { unfold deI; rw [iO]; rw [q7] }; omega) nr gO O44 (by
      have h1 : gv O 47 γ0 = gv B 47 γ0 := by unfold gv; rw [aO 47 (by decide)]
      have h2 : deI O = deI B := by unfold deI; rw [iO]; rw [q7]
      have h3 := hgB.2.2.2.2.2.1.2.1
      omega)).tblb tbO)
  have naw : AI t s V γ0 L L (X.setA 65 t 2) := nai.loc 2 (Or.inl rfl) (by omega)
  obtain ⟨m4, rfl⟩ : ∃ m4, m3 = m4 + 1 := ⟨m3 - 1, by omega⟩
  have push4 : ((m4 + 1 : Nat) : Int) = (m4 : Int) + 1 := by omega
  rw [push4] at hm2
  have fin : fr (X.setA 65 t 2) = fr X := rfl
  have ein : enI (X.setA 65 t 2) = enI X := rfl
  refine hK m4 (X.setA 65 t 2) naw ((h68B.kp kBX hLB (by rw [aX, y1.1, u5, v11 68 (by omega) (by omega) (by omega), aO 68 (by decide)])).kp ((KP.rf t X).loc t 2 (by omega) (by omega) (Nat.le_refl _)) (fun j hj => (nai.2.2.2.2.1.2.2.2 j hj).2.1) (congrFun (setA_nk (by decide)) t)) setA_at (by omega) ?_ (by omega)
  unfold RATE at rt
  omega
end
section
/-! reading: arms: their end, their head -/
theorem AR9 {N : Nat} (hN : 1000 ≤ N) {m : Nat} {s A V w : RS} {t γ0 : Nat} {L : List Nat} {P : RS → Prop} (hI : INV s) (h9 : t < 995) (hF : ∀ u, FS' s u → P u) (s10 : s.i 10 = 428) (kA : KP t s A) (cA : cdI A = cdI s) (A38 : A.i 38 = s.i 38) (A52 : A.i 52 = s.i 52) (fA : fr s + 1 ≤ fr A) (te : ¬ 0 ≤ V.i 18 → TE A V) (k1 : KP t A V) (i1 : INV V) (d1 : V.i 52 = s.i 52) (f1 : fr A + 1 ≤ fr V) (gV : goI V = goI s) (V38 : V.i 38 = s.i 38) (g0 : (γ0 : Int) = goI s) (hg : AI t s V γ0 L L w) (h68 : G68 t L w) (w68 : w.a 68 t = 1) (m1 : 1 ≤ m) {x1 : Int32} (ibx : ib x1 1000) (nx : x1.toNatClampNeg = t) (hC : ∀ (u : RS), PE t s u → fr w + 1 ≤ fr u → ok (f_X12_parse_10 N m u) P) : ok ((f_X12_arms_250 N w x1).bind fun p => f_X12_parse_10 N m p) P := by
  obtain ⟨⟨a1, a2, a3⟩, ⟨b1, b2, b3, b4, b5⟩, ⟨c2, c4, c5⟩, ⟨d1', d2, d3⟩, ⟨e1, e2, e3, e4⟩, ⟨f1', f2, f3⟩, g1, g2, g3⟩ := id hg
  have cs := hI.cd
  have cV := i1.cd
  have cw := a1.cd
  have fw := a1.1.f0
  have ek : ((cdI V).toNat : Int) = cdI V := Int.toNat_of_nonneg cV.1
  obtain ⟨p, ep, x1', x2⟩ := SHO hN a1 125 (by decide)
  unfold f_X12_arms_250
  rw [ep]
  clear ep
  obtain ⟨w2, hw2⟩ : ∃ w2, w2 = p.2 := ⟨_, rfl⟩
  show ok ((if ib x1 1000 then if ib (p.2.a 66 (x1.toNatClampNeg)) 3000 then some (RS.setI (RS.setA (RS.setI (RS.setI p.2 43 ((p.2.i 43) - 1)) 52 ((p.2.i 52) - 1)) 23 ((p.2.a 66 (x1.toNatClampNeg)).toNatClampNeg) (p.2.i 20)) 63 ((p.2.i 63) - 1)) else none else none : Option RS).bind fun p => f_X12_parse_10 N m p) P
  rw [← hw2] at x1' x2 ⊢
  clear hw2
  have ua := x1'.1
  have k66 : (w2.a 66 t).toInt = ((cdI V).toNat : Int) := by rw [ua, d2, ek]
  rw [if_pos ibx, nx, if_pos (show ib (w2.a 66 t) 3000 from ⟨by omega, by omega⟩), k_nat k66]
  show ok (f_X12_parse_10 N m (RS.setI (RS.setA (RS.setI (RS.setI w2 43 ((w2.i 43) - 1)) 52 ((w2.i 52) - 1)) 23 (cdI V).toNat (w2.i 20)) 63 ((w2.i 63) - 1))) P
  obtain ⟨W, hW⟩ : ∃ W, W = RS.setI (RS.setA (RS.setI (RS.setI w2 43 ((w2.i 43) - 1)) 52 ((w2.i 52) - 1)) 23 (cdI V).toNat (w2.i 20)) 63 ((w2.i 63) - 1) := ⟨_, rfl⟩
  have wi : ∀ j : Nat, j ≠ 43 → j ≠ 52 → j ≠ 63 → W.i j = w2.i j := fun j h1 h2 h3 => by rw [hW]; exact (if_neg h3).trans ((if_neg h2).trans (if_neg h1))
  have wa : ∀ k : Nat, k ≠ 23 → W.a k = w2.a k := fun k hk => by rw [hW, setI_a, setA_nk hk]; rfl
  have W23n : ∀ j : Nat, j ≠ (cdI V).toNat → W.a 23 j = w2.a 23 j := fun j hj => by rw [hW, setI_a, setA_ne hj]; rfl
  have W23c : W.a 23 (cdI V).toNat = w2.i 20 := by rw [hW, setI_a]; exact setA_at
  have wb : W.b = w2.b := by rw [hW]; rfl
  have w43 : W.i 43 = w2.i 43 - 1 := by rw [hW]; rfl
  have w52 : W.i 52 = w2.i 52 - 1 := by rw [hW]; rfl
  have w63 : W.i 63 = w2.i 63 - 1 := by rw [hW]; rfl
  rw [← hW]
  clear hW
  have ksV : KP t s V := kA.tr k1 (Nat.le_refl _)
  have ksw : KP t s w := ksV.tr a3 (Nat.le_refl _)
  rcases x2 with x2 | ⟨x2, x3, x4, x5, x6⟩
  · refine lp_f (u := W) (by rw [wi 15 (by decide) (by decide) (by decide)]; exact x2) (hF _ ⟨by rw [wi 15 (by decide) (by decide) (by decide)]; exact x2, ⟨fun j hj => ?_, fun k hk => ?_, ?_⟩, ?_⟩) m1
    · exact (wi j (by omega) (by omega) (by omega)).trans ((x1'.2.2.1 j (by omega) (by omega)).trans (ksw.1.1.1 j hj))
    · rw [wa k (by omega), ua]; exact ksw.1.1.2.1 k hk
    · rw [wb, x1'.2.1]; exact ksw.1.1.2.2
    · rw [wi 75 (by decide) (by decide) (by decide), x1'.2.2.1 75 (by omega) (by omega)]; exact a1.r
  have e1' : (1 : Int32).toInt = 1 := by decide
  have gw2 : goI w2 = goI s + 1 := x1'.tbl.go.trans b2
  have gos := hI.2.2.2.2.2.2.2.2.2.2.2.1
  have gW : goI W = goI s := by
    have g2' : (w2.i 43).toInt = goI s + 1 := gw2
    have hff := hI.1.f0
    unfold goI at *
    rw [w43, toInt_sub] <;> rw [e1'] <;> omega
  have W43 : W.i 43 = s.i 43 := Int32.toInt_inj.mp gW
  have W52 : W.i 52 = s.i 52 := by rw [w52, x1'.2.2.1 52 (by omega) (by omega), b3, Int32.add_sub_cancel]
  have W19 : W.i 19 = s.i 19 := by rw [wi 19 (by decide) (by decide) (by decide), x4, b1, Int32.add_sub_cancel]
  have wl : ∀ j : Nat, 18 ≤ j → j ≠ 19 → j ≠ 43 → j ≠ 52 → j ≠ 63 → W.i j = w.i j := fun j h0 h1 h2 h3 h4 => (wi j h2 h3 h4).trans (x1'.2.2.1 j (by omega) h1)
  have he : EQT w W := ⟨fun k p q => by rw [wa k (by omega), ua], by rw [wb, x1'.2.1], fun j p q r r2 r3 r4 => (wi j r (by omega) r3).trans (x1'.2.2.1 j (by omega) (by omega))⟩
  have hchn : CHN w W := fun γ b M x _ _ _ => ⟨by rw [wa 21 (by decide), ua], by rw [wa 22 (by decide), ua]⟩
  have cW : cdI W = cdI w := by unfold cdI; rw [wl 20 (by omega) (by omega) (by omega) (by omega) (by omega)]
  have W2 : ∀ k : Nat, W.a 21 k = w.a 21 k ∧ W.a 22 k = w.a 22 k ∧ (k ≠ (cdI V).toNat → W.a 23 k = w.a 23 k) := fun k => ⟨by rw [wa 21 (by decide), ua], by rw [wa 22 (by decide), ua], fun hk => by rw [W23n k hk, ua]⟩
  have W38 : W.i 38 = s.i 38 := (wl 38 (by omega) (by omega) (by omega) (by omega) (by omega)).trans b5
  have seW : seI W = seI s := by unfold seI; rw [W38]
  have seV : seI V = seI s := by unfold seI; rw [V38]
  have w18 : W.i 18 = w.i 18 := wl 18 (by omega) (by omega) (by omega) (by omega) (by omega)
  have wf : ∀ k : Nat, 64 ≤ k → k ≤ 73 → bel k t w W := fun k p q j _ => by rw [wa k (by omega), ua]
  have kVs := ksV.2.1.1
  have kW : KP t s W := ksw.fin he hchn (by omega) (by omega) (by omega) (fun z => by rw [w18]; exact z) (fun k hk => ⟨(W2 k).1, (W2 k).2.1, (W2 k).2.2 (by omega)⟩) wf
  have ra2 : RATE s w2 := c2.tr (x1'.tbl.rate (by omega) (by omega))
  have fW : fr W = fr w2 := by unfold fr; rw [wi 11 (by decide) (by decide) (by decide)]
  have tkW : tkI W = tkI w2 := by unfold tkI; rw [wi 17 (by decide) (by decide) (by decide)]
  have rt : RATE s W := by
    have h1 : cdI W = cdI w2 := by unfold cdI; rw [wi 20 (by decide) (by decide) (by decide)]
    have h2 : enI W = enI w2 := by unfold enI; rw [wi 24 (by decide) (by decide) (by decide)]
    have h3 : trI W = trI w2 := by unfold trI; rw [wi 29 (by decide) (by decide) (by decide)]
    have h4 : caI W = caI w2 := by unfold caI; rw [wi 33 (by decide) (by decide) (by decide)]
    have h5 : slI W = slI w2 := by unfold slI; rw [wi 42 (by decide) (by decide) (by decide)]
    have h6 : peI W = peI w2 := by unfold peI; rw [wi 59 (by decide) (by decide) (by decide)]
    unfold RATE at ra2 ⊢
    rw [h1, h2, h3, h4, h5, h6, fW, tkW]
    exact ra2
  have tw := a1.2.2.2.1
  have kg := ksw.2.2.2.2.2.2.1
  have kw := ksw.2.2.2.2.2.2.2.2.1
  have waE : waI w = waI s := by unfold waI; rw [b4]
  have deE : deI W = deI s := by unfold deI; rw [W52]
  have tsb := hI.2.2.2.1
  have kse := ksw.2.2.2.2.2.1.1
  have tW : TAB W := tw.fin he hchn (by omega) (by omega) (by omega) (fun γ hγ => by
    have := (tsb.2.2.2.2.2.2.1 γ (by omega)).2
    have e : gv w 47 γ = gv s 47 γ := by unfold gv; rw [kg.2.2.1 γ (by omega)]
    omega) (fun j hj => by
    have := (tsb.2.2.2.2.2.2.2.2.1 j (by omega)).2.2.2
    have e : gv w 58 j = gv s 58 j := by unfold gv; rw [kw.2.2 j (by omega)]
    omega) (by rw [wl 75 (by omega) (by omega) (by omega) (by omega) (by omega)]; exact a1.r)
  have sm : SAME s W := ⟨W19, W43, W52, (wl 56 (by omega) (by omega) (by omega) (by omega) (by omega)).trans b4⟩
  have lW : LXI W := x1'.2.2.2.1.of (wi 2 (by decide) (by decide) (by decide)) (wi 10 (by decide) (by decide) (by decide)) (wi 11 (by decide) (by decide) (by decide)) (wi 12 (by decide) (by decide) (by decide)) (wi 14 (by decide) (by decide) (by decide)) (by rw [wb])
  have sn : SNW s W := SNW.eq W38 kW.2.2.2.2.2.1.2.1
  have iW : INV W := hI.mkS kW lW ((wi 15 (by decide) (by decide) (by decide)).trans x2) tW sm sn rt (by omega) (by omega)
  have tpw2 : (w2.i 63).toInt = t := x1'.tp.trans a2
  refine hC W ⟨iW, ?_, kW, sm, W38, rt, by omega, by omega, fun z => ?_, ?_, fun q => ?_⟩ (by omega)
  · unfold tpI
    rw [w63, toInt_sub] <;> rw [e1'] <;> omega
  · have zw : ¬ 0 ≤ w.i 18 := fun q => z (by rw [w18]; exact q)
    have zV : ¬ 0 ≤ V.i 18 := fun q => zw (a3.1.2 q)
    refine TE.arms hI kA cA A38 A52 fA (te zV) k1 i1 d1 f1 gV V38 a3 (g1 zw) e2 e1 a1 e3 e4 ?_ he hchn gW (by omega) cW W2 (by rw [W23c]; show cdI w2 = _; have := x1'.tbl.cd; omega) (by omega) w18 wf
    rcases h68 with h | h
    · rw [w68] at h; exact absurd h (by decide)
    · exact h
  · intro j hj
    rw [wa 46 (by decide), ua]
    exact f3 j hj
  · rw [s10] at q
    exact absurd q (by decide)
theorem ARS {N b : Nat} (hN : 1000 ≤ N) (hx : 1 ≤ b → RUNE N 16 4 11 24 (b - 1)) (hl : 1 ≤ b → RUNL N (b - 1)) {s A V : RS} {t γ0 : Nat} {P : RS → Prop} {B0 : Int} (hI : INV s) (hb : 2 * (t : Int) ≤ fr s + 12 * op s + 12) (h9 : t < 995) (hc : 900 - fr s ≤ b) (hF : ∀ u, FS' s u → P u) (s10 : s.i 10 = 428) (kA : KP t s A) (cA : cdI A = cdI s) (A38 : A.i 38 = s.i 38) (A52 : A.i 52 = s.i 52) (fA : fr s + 2 ≤ fr A) (te : ¬ 0 ≤ V.i 18 → TE A V) (k1 : KP t A V) (i1 : INV V) (d1 : V.i 52 = s.i 52) (f1 : fr A + 1 ≤ fr V) (gV : goI V = goI s) (V38 : V.i 38 = s.i 38) (g0 : (γ0 : Int) = goI s) (hC : ∀ (m : Nat) (u : RS), PE t s u → B0 ≤ m + 40 * fr u → ok (f_X12_parse_10 N m u) P) : ∀ (d m : Nat) (st : Int32) (L0 L : List Nat) (w : RS), AI t s V γ0 L0 L w → G68 t L w → w.a 65 t = st → (st = 2 ∧ L0 = L ∨ st = 3 ∧ 2 * (enI w - enI s) + 4 ≤ fr w - fr s ∨ st = 5) → 2 * (enI w - enI s) + 2 ≤ fr w - fr s → 900 - fr w < d → 36000 + 60 ≤ (m : Int) + 40 * fr w → B0 ≤ (m : Int) + 40 * fr w → ok (f_X12_parse_10 N (m + 1) w) P
  | 0, m, st, L0, L, w, hg, h68, w65, hst, hsl, hd, hm, hB => by
    have := hg.1.1.1.f0
    omega
  | d + 1, m, st, L0, L, w, hg, h68, w65, hst, hsl, hd, hm, hB => by
    have ih := ARS hN hx hl hI hb h9 hc hF s10 kA cA A38 A52 fA te k1 i1 d1 f1 gV V38 g0 hC d
    obtain ⟨⟨a1, a2, a3⟩, ⟨b1, b2, b3, b4, b5⟩, ⟨c2, c4, c5⟩, ⟨d1', d2, d3⟩, ⟨e1, e2, e3, e4⟩, ⟨f1', f2, f3⟩, g1, g2, g3⟩ := id hg
    have fw := a1.1.f0
    have cV := i1.cd
    have cw := a1.cd
    have ek : ((cdI V).toNat : Int) = cdI V := Int.toNat_of_nonneg cV.1
    have ksV : KP t s V := kA.tr k1 (Nat.le_refl _)
    have ksw : KP t s w := ksV.tr a3 (Nat.le_refl _)
    have ibx : ib (w.i 63) 1000 := tp_ib a2 (by omega)
    have nx : (w.i 63).toNatClampNeg = t := tp_nat a2
    have hns := hI.2.2.2.2.2.2.1
    have hnw := a1.2.2.2.2.2.2.1
    obtain ⟨m', rfl⟩ : ∃ m', m = m' + 1 := ⟨m - 1, by omega⟩
    have push' : ((m' + 1 : Nat) : Int) = (m' : Int) + 1 := by omega
    rw [push'] at hm hB
    rcases hst with ⟨rfl, rfl⟩ | ⟨rfl, hsl4⟩ | rfl
    · refine lp_19 a2 (by omega) a1.2.2.1 d1' ?_
      unfold f_X12_arms
      rw [if_pos ibx, nx, if_neg (by rw [w65]; decide), if_neg (by rw [w65]; decide), if_pos w65]
      by_cases t1 : w.i 10 = 429
      · rw [if_pos t1]
        obtain ⟨w1, ew, y1, y2, y3, y4, y5, y6, y7⟩ := NX hN a1 (by rw [t1]; decide)
        have y7 := y7 (Or.inl (by rw [t1]; decide))
        rw [ew]
        show ok (f_X12_parse_10 N (m' + 1) (w1.setA 65 t 3)) P
        have gw1 : AI t s V γ0 L0 L0 w1 := hg.lx y4 y1 y3 (by omega) (by omega) (by omega)
        have e1n : enI w1 = enI w := y1.tbl.en
        have fin : fr (w1.setA 65 t 3) = fr w1 := rfl
        have ein : enI (w1.setA 65 t 3) = enI w1 := rfl
        exact ih m' 3 L0 L0 (w1.setA 65 t 3) (gw1.loc 3 (Or.inl rfl) (by omega)) (by
          unfold G68 at h68 ⊢
          rw [setA_nk (by decide), setA_nk (by decide), y1.1]; exact h68) setA_at (Or.inr (Or.inl ⟨rfl, by omega⟩)) (by omega) (by omega) (by omega) (by omega)
      rw [if_neg t1]
      by_cases t2 : w.i 10 = 430
      · rw [if_pos t2]
        by_cases c68 : w.a 68 t = 1
        · rw [if_pos c68]
          obtain ⟨S, eS, r1, r2, r3⟩ := p_fl (N := N) a1.1 4 (w.i 11) (by decide)
          rw [eS]
          exact lp_f (u := S) r2 (hF _ (FS'.of ksw.1.1 r1 r2 a1.r)) (by omega)
        rw [if_neg c68]
        have hgu : AI t s V γ0 L0 L0 (w.setA 68 t 1) := hg.loc 1 (Or.inr (by omega)) (by omega)
        obtain ⟨u, hu⟩ : ∃ u, u = w.setA 68 t 1 := ⟨_, rfl⟩
        have iiu : u.i = w.i := by rw [hu]; rfl
        have u68 : u.a 68 t = 1 := by rw [hu]; exact setA_at
        rw [← hu] at hgu ⊢
        clear hu
        have iu := hgu.1.1
        have fu : fr u = fr w := by unfold fr; rw [iiu]
        have tu : tkI u = tkI w := by unfold tkI; rw [iiu]
        have eun : enI u = enI w := by unfold enI; rw [iiu]
        obtain ⟨U, eU, en⟩ := p_en (N := N) (u := u) (L := L0) (c0 := (cdI V).toNat) 0 1 ibx nx (by omega) (by omega) (by rw [hgu.2.2.2.1.2.1, ek]) (by omega) hgu.2.2.2.1.2.2 hgu.2.2.2.2.1.2.2.1 (fun j hj => (hgu.2.2.2.2.1.2.2.2 j hj).2.1)
        rw [eU]
        clear eU
        have iU : INV U := iu.ent en (by rw [hgu.2.2.2.2.1.2.1]; decide) (fun j hj => (hgu.2.2.2.2.1.2.2.2 j hj).2.1) (by omega)
        have gU : AI t s V γ0 L0 (L0 ++ [(enI u).toNat]) U := hgu.ent i1 iU en (by omega)
        obtain ⟨p, ep, y1, y2, y3, y4, y5, y6, y7⟩ := NX hN iU (by rw [en.1 10 (by decide), iiu, t2]; decide)
        have y7 := y7 (Or.inl (by rw [en.1 10 (by decide), iiu, t2]; decide))
        have fU : fr U = fr u := by unfold fr; rw [en.1 11 (by decide)]
        have tU : tkI U = tkI u := by unfold tkI; rw [en.1 17 (by decide)]
        show ok (((f_X12_next N U).bind fun p39 => some (RS.setA p39 65 t 5)).bind fun p => f_X12_parse_10 N (m' + 1) p) P
        rw [ep]
        show ok (f_X12_parse_10 N (m' + 1) (p.setA 65 t 5)) P
        have gp : AI t s V γ0 L0 (L0 ++ [(enI u).toNat]) p := gU.lx y4 y1 y3 (by omega) (by omega) (by omega)
        have epn : enI p = enI U := y1.tbl.en
        have eUn := en.2.1
        have fin : fr (p.setA 65 t 5) = fr p := rfl
        have ein : enI (p.setA 65 t 5) = enI p := rfl
        refine ih m' 5 L0 (L0 ++ [(enI u).toNat]) (p.setA 65 t 5) (gp.loc 5 (Or.inl rfl) (by omega)) (Or.inr ⟨_, List.mem_append_right _ (List.mem_cons_self ..), ?_⟩) setA_at (Or.inr (Or.inr rfl)) (by omega) (by omega) (by omega) (by omega)
        rw [setA_nk (by decide), y1.1, en.2.2.2.2.2.2.2.2.2.2.1]
        decide
      rw [if_neg t2]
      have flt0 : ∀ y : Int32, y = 0 → ok (((f_X12_can N w y).bind fun p30 => (if p30.1 = 0 then some p30.2 else f_X12_arms_250 N p30.2 (w.i 63))).bind fun p => f_X12_parse_10 N (m' + 1) p) P := fun y hy => by
        obtain ⟨G, eG, q1, q2, hG⟩ := p_cn (N := N) a1.1 y
        rw [eG]
        show ok ((if G.1 = 0 then some G.2 else f_X12_arms_250 N G.2 (w.i 63) : Option RS).bind fun p => f_X12_parse_10 N (m' + 1) p) P
        rcases hG with ⟨q3, q4⟩ | ⟨q3, q4, q5, q6⟩
        · rw [if_pos q3]
          exact lp_f (u := G.2) q4 (hF _ (FS'.of ksw.1.1 q1 q4 a1.r)) (by omega)
        · exact absurd hy q6
      by_cases t3 : w.i 10 = 125
      · rw [if_pos t3]
        by_cases c68 : w.a 68 t = 1
        · rw [if_pos c68]
          obtain ⟨G, eG, q1, q2, hG⟩ := p_cn (N := N) a1.1 1
          rw [eG]
          show ok ((if G.1 = 0 then some G.2 else f_X12_arms_250 N G.2 (w.i 63) : Option RS).bind fun p => f_X12_parse_10 N (m' + 1) p) P
          rcases hG with ⟨q3, q4⟩ | ⟨q3, q4, q5, q6⟩
          · rw [if_pos q3]
            exact lp_f (u := G.2) q4 (hF _ (FS'.of ksw.1.1 q1 q4 a1.r)) (by omega)
          rw [if_neg (by rw [q3]; decide), q4]
          exact AR9 hN hI h9 hF s10 kA cA A38 A52 (by omega) te k1 i1 d1 f1 gV V38 g0 hg h68 c68 (by omega) ibx nx (fun u hu hf => hC (m' + 1) u hu (by omega))
        · rw [if_neg c68]
          exact flt0 0 rfl
      · rw [if_neg t3]
        exact flt0 0 rfl
    · refine lp_19 a2 (by omega) a1.2.2.1 d1' ?_
      unfold f_X12_arms
      rw [if_pos ibx, nx, if_neg (by rw [w65]; decide), if_neg (by rw [w65]; decide), if_neg (by rw [w65]; decide), if_pos w65]
      obtain ⟨p, ep, hp⟩ := CASEN (L := L) (c0 := (cdI V).toNat) hN a1 ibx nx (by rw [d2, ek]) (by omega) d3 e3 (fun j hj => (e4 j hj).2.1) (by rw [e2]; decide) (by omega)
      rw [ep]
      clear ep
      show ok ((if p.1 = 0 then some p.2 else (if (p.2.i 10) = 44 then f_X12_arms_333 N (RS.setA p.2 65 t 3) else f_X12_arms_333 N (RS.setA p.2 65 t 5)) : Option RS).bind fun p => f_X12_parse_10 N (m' + 1) p) P
      rcases hp with ⟨p1, p2, p3⟩ | ⟨p1, u, U, u1, u2, u3, u4, u5, u6, u7, u8, u9, u10, u11, u12, u13⟩
      · rw [if_pos p1]
        exact lp_f (u := p.2) p2 (hF _ (FS'.of ksw.1.1 p3 p2 a1.r)) (by omega)
      rw [if_neg (by rw [p1]; decide)]
      have fU : fr U = fr u := by unfold fr; rw [u7.1 11 (by decide)]
      have tU : tkI U = tkI u := by unfold tkI; rw [u7.1 17 (by decide)]
      have eun : enI u = enI w := u1.tbl.en
      have eUn := u7.2.1
      have epn : enI p.2 = enI U := u8.tbl.en
      have gp : AI t s V γ0 L0 (L ++ [(enI u).toNat]) p.2 := ((hg.lx u2 u1 u3 u4 u5 u6).ent i1 u9 u7 (by omega)).lx u10 u8 u11 (by omega) (by omega) (by omega)
      obtain ⟨R, hR⟩ : ∃ R, R = p.2 := ⟨_, rfl⟩
      have R28 : ∀ j ∈ L, R.a 28 j = w.a 28 j := fun j hj => by
        have := (e4 j hj).2.1
        rw [hR, u8.1, u7.2.2.2.2.2.2.2.1 28 j (by omega) (by omega) (by omega) (Or.inl (by decide)), u1.1]
      have R68 : R.a 68 t = w.a 68 t := by rw [hR, u8.1, u7.2.2.2.1 68 (by decide) (by omega) (by decide), u1.1]
      rw [← hR] at gp u10 u11 u12 u13 epn ⊢
      clear hR u8
      have h68R : G68 t (L ++ [(enI u).toNat]) R := by
        rcases h68 with h | ⟨j, j1, j2⟩
        · left; rw [R68]; exact h
        · right; exact ⟨j, List.mem_append_left _ j1, by rw [R28 j j1]; exact j2⟩
      by_cases c44 : R.i 10 = 44
      · rw [if_pos c44]
        have gq : AI t s V γ0 L0 (L ++ [(enI u).toNat]) (R.setA 65 t 3) := gp.loc 3 (Or.inl rfl) (by omega)
        unfold f_X12_arms_333
        rw [if_pos (show (R.setA 65 t 3).i 10 = 44 from c44)]
        obtain ⟨w1, ew, y1, y2, y3, y4, y5, y6, y7⟩ := NX hN gq.1.1 (by show ¬ R.i 10 = 0; rw [c44]; decide)
        rw [ew]
        show ok (f_X12_parse_10 N (m' + 1) w1) P
        have f3' : fr (R.setA 65 t 3) = fr R := rfl
        have e3' : enI (R.setA 65 t 3) = enI R := rfl
        have t3' : tkI (R.setA 65 t 3) = tkI R := rfl
        have e1n : enI w1 = enI R := y1.tbl.en.trans e3'
        refine ih m' 3 L0 (L ++ [(enI u).toNat]) w1 (gq.lx y4 y1 y3 (by omega) (by omega) (by omega)) ?_ (by rw [y1.1]; exact setA_at) (Or.inr (Or.inl ⟨rfl, by omega⟩)) (by omega) (by omega) (by omega) (by omega)
        unfold G68 at h68R ⊢
        rw [y1.1, setA_nk (by decide), setA_nk (by decide)]
        exact h68R
      · rw [if_neg c44]
        have gq : AI t s V γ0 L0 (L ++ [(enI u).toNat]) (R.setA 65 t 5) := gp.loc 5 (Or.inl rfl) (by omega)
        unfold f_X12_arms_333
        rw [if_neg (show ¬ (R.setA 65 t 5).i 10 = 44 from c44)]
        show ok (f_X12_parse_10 N (m' + 1) (R.setA 65 t 5)) P
        have f3' : fr (R.setA 65 t 5) = fr R := rfl
        have e3' : enI (R.setA 65 t 5) = enI R := rfl
        refine ih m' 5 L0 (L ++ [(enI u).toNat]) (R.setA 65 t 5) gq ?_ setA_at (Or.inr (Or.inr rfl)) (by omega) (by omega) (by omega) (by omega)
        unfold G68 at h68R ⊢
        rw [setA_nk (by decide), setA_nk (by decide)]
        exact h68R
    · refine AR5 hN hx hl hI hb h9 hc hF ksV i1 d1 (by omega) V38 g0 hg h68 w65 (by omega) (fun m2 w' q1 q2 q3 q4 q5 q6 => ih m2 2 L L w' q1 q2 q3 (Or.inl ⟨rfl, rfl⟩) (by omega) (by omega) (by omega) (by omega))
end
section
/-! reading: arms: run_arms -/
theorem run_arms {N b : Nat} (hN : 1000 ≤ N) (hx : 1 ≤ b → RUNE N 16 4 11 24 (b - 1)) (hl : 1 ≤ b → RUNL N (b - 1)) : RUNA N 6 4 31 b := by
  intro n s t P hI ht hK hS s10 hb hc hn hF hC
  have hf := hI.1.f0
  have cs := hI.cd
  have hop := hI.op
  have h9 : t < 995 := by omega
  obtain ⟨n', rfl⟩ : ∃ n', n = n' + 1 := ⟨n - 1, by omega⟩
  have push : ((n' + 1 : Nat) : Int) = (n' : Int) + 1 := by omega
  rw [push] at hn hC
  refine lp_19 ht (by omega) hI.2.2.1 hK ?_
  unfold f_X12_arms
  rw [if_pos (tp_ib ht (by omega)), tp_nat ht, if_pos hS]
  obtain ⟨R, eR, y1, y2, y3, y4, y5, y6, y7⟩ := NX hN hI (by rw [s10]; decide)
  have y7 := y7 (Or.inl (by rw [s10]; decide))
  rw [eR]
  clear eR
  have r3 : KP t s R := (KP.rf t s).lx y1
  have r4 : SAME s R := y1.same y3
  have r6 : RATE s R := y1.tbl.rate (by omega) (by omega)
  have mR : MM t s R := ⟨y4, y1.tp.trans ht, r3, r4, y1.i38, r6, by omega, by omega⟩
  have oR : op R = op s := r4.eOp
  refine OPC hN hx (by omega) mR (by omega) hc (by omega) (by omega) hF (fun m A V a1 a2 a3 a4 a5 a6 a7 a8 a9 a10 _ hv hm => ?_)
  have hv' := hv
  obtain ⟨v1, v2, v3, v4, v5, v6, v7, v8, v9, v10, v11, v12⟩ := hv'
  have fv := v1.1.f0
  have cv := v1.cd
  obtain ⟨m3, rfl⟩ : ∃ m3, m = m3 + 1 := ⟨m - 1, by omega⟩
  have push3 : ((m3 + 1 : Nat) : Int) = (m3 : Int) + 1 := by omega
  rw [push3] at hm
  have V64 : V.a 64 t = 19 := by rw [v12 64 (by omega) (by omega) (by omega), a10, y1.1]; exact hK
  refine lp_19 v2 (by omega) v1.2.2.1 V64 ?_
  unfold f_X12_arms
  rw [if_pos (tp_ib v2 (by omega)), tp_nat v2, if_neg (by rw [v11]; decide), if_pos v11]
  obtain ⟨w, ew, x1, x2⟩ := SHO hN v1 41 (by decide)
  rw [ew]
  clear ew
  obtain ⟨w0, hw0⟩ : ∃ w0, w0 = w.2 := ⟨_, rfl⟩
  show ok (((f_X12_emit N w.2 29 (-1)).bind fun p12 => (f_X12_goal N (RS.setI (RS.setA (RS.setA (RS.setA p12.2 66 t p12.1) 67 t (-1)) 68 t 0) 52 ((p12.2.i 52) + 1)) 3 0).bind fun p14 => (f_X12_open N p14.2 123).bind fun p16 => some (RS.setA p16.2 65 t 2)).bind fun p => f_X12_parse_10 N m3 p) P
  rw [← hw0] at x1 x2 ⊢
  clear hw0
  have ksA : KP t s A := r3.tr a3 (Nat.le_refl _)
  have ksv : KP t s V := ksA.tr v3 (Nat.le_refl _)
  have ecw : cdI w0 = cdI V := x1.tbl.cd
  rw [p_em 29 (-1) (by omega) (by omega)]
  obtain ⟨X, hX⟩ : ∃ X, X = EM w0 29 (-1) := ⟨_, rfl⟩
  rw [← hX]
  show ok (((f_X12_goal N (RS.setI (RS.setA (RS.setA (RS.setA X 66 t (w0.i 20)) 67 t (-1)) 68 t 0) 52 ((X.i 52) + 1)) 3 0).bind fun p14 => (f_X12_open N p14.2 123).bind fun p16 => some (RS.setA p16.2 65 t 2)).bind fun p => f_X12_parse_10 N m3 p) P
  obtain ⟨E, hE⟩ : ∃ E, E = (X.setA 66 t (w0.i 20)).setA 67 t (-1) := ⟨_, rfl⟩
  rw [← hE]
  have iE : ∀ j : Nat, j ≠ 20 → E.i j = w0.i j := fun j hj => by rw [hE, hX]; exact EM.i hj
  have cE : cdI E = cdI V + 1 := by rw [hE, hX]; exact (EM.cd (u := w0) (o := 29) (x := -1) (by omega) (by omega)).trans (by rw [ecw])
  have bE : E.b = w0.b := by rw [hE, hX]; rfl
  have kE : KP t V E := by rw [hE, hX]; exact ((((KP.rf t V).lx x1).em cv.1 (by omega)).loc t _ (by omega) (by omega) (Nat.le_refl _)).loc t _ (by omega) (by omega) (Nat.le_refl _)
  have E21 : ∀ j : Nat, E.a 21 j = if j = (cdI V).toNat then 29 else w0.a 21 j := fun j => by rw [hE, setA_nk (by decide), setA_nk (by decide), hX, EM.a21, ecw]
  have E22 : E.a 22 (cdI V).toNat = -1 := by rw [hE, setA_nk (by decide), setA_nk (by decide), hX, EM.a22, if_pos (by rw [ecw])]
  have E66 : E.a 66 t = w0.i 20 := by rw [hE, setA_nk (by decide)]; exact setA_at
  have E67 : E.a 67 t = -1 := by rw [hE]; exact setA_at
  have aE : ∀ k : Nat, k ≠ 21 → k ≠ 22 → k ≠ 23 → k ≠ 66 → k ≠ 67 → E.a k = w0.a k := fun k h1 h2 h3 h4 h5 => by rw [hE, setA_nk h5, setA_nk h4, hX, EM.a h1 h2 h3]
  have tE : ∀ h : MM t s w0, cdI w0 + 1 - cdI s ≤ 3 * (fr w0 - fr s) → MM t s E := fun h q => by rw [hE, hX]; exact ((h.em hI q).loc _ (by omega) (by omega)).loc _ (by omega) (by omega)
  have X38 : X.i 38 = w0.i 38 := by rw [hX]; rfl
  have X52 : X.i 52 = w0.i 52 := by rw [hX]; rfl
  rw [X52]
  clear hX
  clear hE
  obtain ⟨U0, hU0⟩ : ∃ U0, U0 = E.setA 68 t 0 := ⟨_, rfl⟩
  have iU0 : U0.i = E.i := by rw [hU0]; rfl
  have bU0 : U0.b = E.b := by rw [hU0]; rfl
  have kU0 : KP t V U0 := by rw [hU0]; exact kE.loc t _ (by omega) (by omega) (Nat.le_refl _)
  have aU0 : ∀ k : Nat, k ≠ 68 → U0.a k = E.a k := fun k hk => by rw [hU0, setA_nk hk]
  have U068 : U0.a 68 t = 0 := by rw [hU0]; exact setA_at
  have tU0 : MM t s E → MM t s U0 := fun h => by rw [hU0]; exact h.loc _ (by omega) (by omega)
  rw [← hU0]
  clear hU0
  obtain ⟨U, hU⟩ : ∃ U, U = U0.setI 52 ((w0.i 52) + 1) := ⟨_, rfl⟩
  rw [← hU]
  have iU : ∀ j : Nat, j ≠ 52 → U.i j = E.i j := fun j hj => by rw [hU]; exact (if_neg hj).trans (by rw [iU0])
  have U52 : U.i 52 = w0.i 52 + 1 := by rw [hU]; rfl
  have bU : U.b = E.b := by rw [hU]; exact bU0
  have kU : KP t V U := by rw [hU]; exact kU0.i52 _
  have aU : U.a = U0.a := by rw [hU]; rfl
  have tbU : TBL U0 U := by rw [hU]; exact TBL.i52 U0 _
  clear hU
  have gos := hI.2.2.2.2.2.2.2.2.2.2.2.1
  have vgo : goI V = goI s := by
    have e1 : goI V = goI A := v4.go
    have e2 := a4.go
    have e3 := r4.go
    omega
  have gU : goI U = goI s := by
    have e1 : goI U = goI w0 := by unfold goI; rw [iU 43 (by decide), iE 43 (by decide)]
    have e2 := x1.tbl.go
    omega
  rw [p_go 3 0 (by omega) (by omega)]
  show ok (((f_X12_open N (GO U 3 0) 123).bind fun p16 => some (RS.setA p16.2 65 t 2)).bind fun p => f_X12_parse_10 N m3 p) P
  obtain ⟨G, hG⟩ : ∃ G, G = GO U 3 0 := ⟨_, rfl⟩
  have iG : ∀ j : Nat, j ≠ 43 → G.i j = U.i j := fun j hj => by rw [hG]; exact GO.eI hj
  have bG : G.b 9 = U.b 9 := by rw [hG]; rfl
  have gG : goI G = goI s + 1 := by rw [hG]; exact (GO.eGO (u := U) (w := 3) (n := 0) (by omega) (by omega)).trans (by rw [gU])
  have aG : ∀ k : Nat, k < 44 ∨ 51 < k → G.a k = U.a k := fun k h1 => by rw [hG]; exact GO.eA (by omega)
  obtain ⟨γ0, hγ0⟩ : ∃ γ0, γ0 = (U.i 43).toNatClampNeg := ⟨_, rfl⟩
  have gn : (γ0 : Int) = goI s := by rw [hγ0]; exact (gN (by omega)).trans gU
  have G44 : G.a 44 γ0 = 3 := by rw [hG, hγ0]; exact GO.a44
  have G47 : G.a 47 γ0 = U.i 52 := by rw [hG, hγ0]; exact GO.a47
  have G46 : ∀ j : Nat, j ≠ γ0 → G.a 46 j = U.a 46 j := fun j hj => by rw [hG]; exact GO.lo (by rw [← hγ0]; exact hj)
  have kG : KP t V G := by rw [hG]; exact kU.go (by omega) (by omega)
  have IG : INV U → 2 * (goI U + 1) ≤ fr U → INV G := fun h q => by rw [hG]; exact h.go q
  rw [← hG]
  clear hG hγ0
  have i20 : ∀ j : Nat, j ≠ 20 → j ≠ 43 → j ≠ 52 → G.i j = w0.i j := fun j h1 h2 h3 => by rw [iG j h2, iU j h3, iE j h1]
  have lG : LXI G := x1.2.2.2.1.of (i20 2 (by decide) (by decide) (by decide)) (i20 10 (by decide) (by decide) (by decide)) (i20 11 (by decide) (by decide) (by decide)) (i20 12 (by decide) (by decide) (by decide)) (i20 14 (by decide) (by decide) (by decide)) (by rw [bG, bU, bE])
  have r75 : G.i 75 = 0 ∨ G.i 75 = 1 := by rw [i20 75 (by decide) (by decide) (by decide), x1.2.2.1 75 (by omega) (by omega)]; exact v1.r
  have ksG : KP t s G := ksv.tr kG (Nat.le_refl _)
  have flt : ∀ S : RS, LX G S → ¬ S.i 15 = 0 → ok (f_X12_parse_10 N m3 (S.setA 65 t 2)) P := fun S h1 h2 => lp_f (u := S.setA 65 t 2) h2 (hF _ (FS'.loc (FS'.of ksG.1.1 h1 h2 r75) t 2 (by omega) (by omega))) (by omega)
  rcases x2 with x2 | ⟨x2, x3, x4, x5, x6⟩
  · obtain ⟨S, eS, o1, -, -⟩ := p_op hN lG 123 (by decide)
    rw [eS]
    exact flt S.2 o1 (fun q => x2 (by rw [← i20 15 (by decide) (by decide) (by decide)]; exact o1.2.2.2.2.1 q))
  have mB : MM t s w0 := MM.clo hI mR a3 a4 a5 a7 a8 a9 hv x1 x2 x4 x5 x6
  have raw := mB.2.2.2.2.2.1
  have mE : MM t s E := tE mB (by unfold RATE at v6 r6; have h1 := a4.cd; have h2 := y1.tbl.cd; omega)
  have mU0 : MM t s U0 := tU0 mE
  have fU : fr U = fr w0 := by unfold fr; rw [iU 11 (by decide), iE 11 (by decide)]
  have fU0 : fr U0 = fr w0 := by unfold fr; rw [iU0, iE 11 (by decide)]
  have dw : deI w0 = deI s := mB.2.2.2.1.de
  have dU : deI U = deI s + 1 := by
    have e1 : (1 : Int32).toInt = 1 := by decide
    have hh : 0 ≤ deI s ∧ deI s ≤ 300 := by have := hI.2.2.2.2.2.2.2.2.2.2.2.2.1; omega
    have dw' : (w0.i 52).toInt = deI s := dw
    unfold deI
    rw [U52, toInt_add] <;> rw [e1] <;> (unfold deI at *; omega)
  have iiU : INV U := by
    have iw := mU0.1
    have kk : KP t s U := ksv.tr kU (Nat.le_refl _)
    have lU : LXI U := x1.2.2.2.1.of (by rw [iU 2 (by decide), iE 2 (by decide)]) (by rw [iU 10 (by decide), iE 10 (by decide)]) (by rw [iU 11 (by decide), iE 11 (by decide)]) (by rw [iU 12 (by decide), iE 12 (by decide)]) (by rw [iU 14 (by decide), iE 14 (by decide)]) (by rw [bU, bE])
    have d0 : deI U0 = deI s := by unfold deI at *; rw [iU0, iE 52 (by decide)]; exact dw
    refine ⟨lU, hI.2.1.kp kk, by rw [iU 15 (by decide), iE 15 (by decide)]; exact x2, iw.2.2.2.1.tbl tbU (fun γ hγ => by have := (iw.2.2.2.1.2.2.2.2.2.2.1 γ hγ).2; omega) (by rw [iU 75 (by decide), ← iU0]; exact iw.r), ?_⟩
    have nw := iw.2.2.2.2
    have e1 : op U = op U0 := by unfold op; rw [iU 19 (by decide), iU0]
    have e1' : op U0 = op s := mU0.2.2.2.1.eOp
    have e11 : fr U = fr U0 := by omega
    have e12 : tkI U = tkI U0 := by unfold tkI; rw [iU 17 (by decide), iU0]
    have ds := hI.2.2.2.2.2.2.2.2.2.2.2.2.1
    unfold NUM at nw ⊢
    rw [tbU.cd, tbU.en, tbU.tt, tbU.ca, tbU.se, tbU.sl, tbU.go, tbU.wa, tbU.pe, e1, e11, e12, dU]
    omega
  have iiG : INV G := IG iiU (by omega)
  obtain ⟨p, ep, hpp⟩ := OPO (t := t) hN iiG 123 (by decide)
  rw [ep]
  clear ep
  rcases hpp with ⟨p1, p2, p3⟩ | ⟨p1, p2, p3, q1, q2, q3, q4, q5, q6, q7, q8, q9, q10, q11⟩
  · exact flt p.2 p2 p1
  show ok (f_X12_parse_10 N m3 (p.2.setA 65 t 2)) P
  obtain ⟨O, hO⟩ : ∃ O, O = p.2.setA 65 t 2 := ⟨_, rfl⟩
  have iO : O.i = p.2.i := by rw [hO]; rfl
  have aO : ∀ k : Nat, k ≠ 65 → O.a k = G.a k := fun k hk => by rw [hO, setA_nk hk, q10]
  have O65 : O.a 65 t = 2 := by rw [hO]; exact setA_at
  have tbO : TBL G O := by rw [hO]; exact q4.tr (TBL.loc _ t _ (by omega) (by omega))
  have kO : KP t G O := by rw [hO]; exact q3.loc t _ (by omega) (by omega) (Nat.le_refl _)
  have iiO : INV O := by rw [hO]; exact q1.loc t _ (by omega) (by omega)
  rw [← hO]
  clear hO
  have fO : fr O = fr p.2 := by unfold fr; rw [iO]
  have tkO : tkI O = tkI p.2 := by unfold tkI; rw [iO]
  have fG : fr G = fr w0 := by unfold fr; rw [i20 11 (by decide) (by decide) (by decide)]
  have tkG : tkI G = tkI w0 := by unfold tkI; rw [i20 17 (by decide) (by decide) (by decide)]
  have kVO : KP t V O := kG.tr kO (Nat.le_refl _)
  have ek : ((cdI V).toNat : Int) = cdI V := Int.toNat_of_nonneg cv.1
  have cG : cdI G = cdI V + 1 := by
    have : cdI G = cdI E := by unfold cdI; rw [iG 20 (by decide), iU 20 (by decide)]
    omega
  have cO : cdI O = cdI V + 1 := tbO.cd.trans cG
  have m1 : (-1 : Int32).toInt = -1 := by decide
  have ea : ∀ k : Nat, k < 44 ∨ 51 < k → k ≠ 65 → k ≠ 68 → O.a k = E.a k := fun k h1 h2 h3 => (aO k h2).trans ((aG k h1).trans (by rw [aU, aU0 k h3]))
  have O38 : O.i 38 = s.i 38 := by rw [iO, q11.2.2.1 38 (by omega) (by omega), i20 38 (by decide) (by decide) (by decide)]; exact mB.2.2.2.2.1
  have V38 : V.i 38 = s.i 38 := v5.trans ((a4.2.2 38 (by omega) (by omega) (by omega) (by omega)).trans y1.i38)
  have A52 : A.i 52 = s.i 52 := a7.trans r4.2.2.1
  have d1 : V.i 52 = s.i 52 := v4.2.2.1.trans A52
  have een : enI O = enI w0 := by
    have h1 : enI O = enI G := tbO.en
    have h2 : enI G = enI w0 := by unfold enI; rw [i20 24 (by decide) (by decide) (by decide)]
    omega
  have ewV : enI w0 = enI V := x1.tbl.en
  have eA : enI A = enI R := a4.en
  have eRn : enI R = enI s := y1.tbl.en
  have gi : AI t s V γ0 [] [] O := by
    refine ⟨⟨iiO, by unfold tpI; rw [iO]; exact q2.trans ((congrArg Int32.toInt (i20 63 (by decide) (by decide) (by decide))).trans mB.2.1), kVO⟩, ⟨?_, by rw [tbO.go]; exact gG, ?_, ?_, O38⟩, ⟨?_, by omega, ?_⟩, ⟨?_, ?_, Or.inl ⟨rfl, ?_⟩⟩, ⟨by omega, ?_, ?_, fun j hj => absurd hj List.not_mem_nil⟩, ⟨?_, ?_, fun j hj => ?_⟩, fun _ => TSA.nil _ _ _, fun j hj => hj, fun j hj => absurd hj List.not_mem_nil⟩
    · rw [iO, q5, i20 19 (by decide) (by decide) (by decide), mB.2.2.2.1.1]
    · rw [iO, q7, iG 52 (by decide), U52, mB.2.2.2.1.2.2.1]
    · rw [iO, q11.2.2.1 56 (by omega) (by omega), i20 56 (by decide) (by decide) (by decide)]; exact mB.2.2.2.1.2.2.2
    · have h3 : trI O = trI w0 := by rw [tbO.tt]; unfold trI; rw [i20 29 (by decide) (by decide) (by decide)]
      have h4 : caI O = caI w0 := by rw [tbO.ca]; unfold caI; rw [i20 33 (by decide) (by decide) (by decide)]
      have h5 : slI O = slI w0 := by rw [tbO.sl]; unfold slI; rw [i20 42 (by decide) (by decide) (by decide)]
      have h6 : peI O = peI w0 := by rw [tbO.pe]; unfold peI; rw [i20 59 (by decide) (by decide) (by decide)]
      unfold RATE at raw ⊢
      rw [een, h3, h4, h5, h6]
      omega
    · have := mB.2.2.2.2.2.2.2
      omega
    · rw [ea 64 (by omega) (by decide) (by decide), aE 64 (by decide) (by decide) (by decide) (by decide) (by decide), x1.1]; exact V64
    · rw [ea 66 (by omega) (by decide) (by decide), E66]; exact ecw
    · rw [ea 67 (by omega) (by decide) (by decide), E67, m1]; decide
    · rw [ea 21 (by omega) (by decide) (by decide), E21, if_pos rfl]
    · show gv O 22 _ < 0
      unfold gv
      rw [ea 22 (by omega) (by decide) (by decide), E22, m1]; decide
    · rw [aO 44 (by decide)]; exact G44
    · unfold gv
      rw [aO 47 (by decide), G47]
      exact dU
    · rw [aO 46 (by decide), G46 j (by omega), aU, aU0 46 (by decide), aE 46 (by decide) (by decide) (by decide) (by decide) (by decide), x1.1, v10.1 j (by have h1 := a4.go; have h2 := r4.go; omega), a10, y1.1]
  have g68 : G68 t [] O := Or.inl (by rw [aO 68 (by decide), aG 68 (by omega), aU]; exact U068)
  obtain ⟨m4, rfl⟩ : ∃ m4, m3 = m4 + 1 := ⟨m3 - 1, by omega⟩
  have push4 : ((m4 + 1 : Nat) : Int) = (m4 : Int) + 1 := by omega
  rw [push4] at hm
  have fOf := iiO.1.f0
  have cRs : cdI R = cdI s := y1.tbl.cd
  exact ARS (B0 := (n' : Int) + 1 + 40 * fr s + 31) hN hx hl hI hb h9 hc hF s10 ksA (by have h1 := a4.cd; omega) ((a4.2.2 38 (by omega) (by omega) (by omega) (by omega)).trans y1.i38) A52 (by omega) v9 v3 v1 d1 v7 vgo V38 gn hC 1000 m4 2 [] [] O gi g68 O65 (Or.inl ⟨rfl, rfl⟩) (by unfold RATE at v6; omega) (by omega) (by omega) (by omega)
end
