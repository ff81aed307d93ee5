/-! reading: arms: their frame -/
/-- between arms, or before one: L0 are typed, the rest of L points to what comes next -/
def AI (t : Nat) (s V : RS) (γ0 : Nat) (L0 L : List Nat) (w : RS) : Prop := (INV w ∧ tpI w = t ∧ KP t V w) ∧ (w.i 19 = s.i 19 + 1 ∧ goI w = goI s + 1 ∧ w.i 52 = s.i 52 + 1 ∧ w.i 56 = s.i 56 ∧ w.i 38 = s.i 38) ∧ (RATE s w ∧ fr V + 2 ≤ fr w ∧ tkI s + 1 ≤ tkI w) ∧ (w.a 64 t = 19 ∧ (w.a 66 t).toInt = cdI V ∧ FQ w t L) ∧ (cdI V + 1 ≤ cdI w ∧ w.a 21 (cdI V).toNat = 29 ∧ ENCH w (gv w 22 (cdI V).toNat) L ∧ (∀ j ∈ L, enI V ≤ (j : Int) ∧ (j : Int) < enI w ∧ cdI V + 1 ≤ gv w 26 j)) ∧ (w.a 44 γ0 = 3 ∧ gv w 47 γ0 = deI s + 1 ∧ bel 46 (goI s) s w) ∧ (¬ 0 ≤ w.i 18 → TSA L0 L (cdI V).toNat V w) ∧ (∀ j ∈ L0, j ∈ L) ∧ (∀ j ∈ L, j ∈ L0 ∨ gv w 26 j = cdI w)
theorem AI.tbl {t : Nat} {s V : RS} {γ0 : Nat} {L0 L : List Nat} {w w' : RS} (h : AI t s V γ0 L0 L w) (i : INV w') (tb : TBL w w') (k : KP t w w') (h19 : w'.i 19 = w.i 19) (h52 : w'.i 52 = w.i 52) (tp : tpI w' = tpI w) (hf : fr w ≤ fr w') (tk : tkI w ≤ tkI w') (tk2 : tkI w' - tkI w ≤ fr w' - fr w) (loc : ∀ k : Nat, 64 ≤ k → k ≤ 67 → k ≠ 65 → w'.a k t = w.a k t) : AI t s V γ0 L0 L w' := by
  obtain ⟨⟨a1, a2, a3⟩, ⟨b1, b2, b3, b4, b5⟩, ⟨c2, c4, c5⟩, ⟨d1, d2, d3⟩, ⟨e1, e2, e3, e4⟩, ⟨f1, f2, f3⟩, g1, g2, g3⟩ := h
  have ecd := tb.cd
  refine ⟨⟨i, tp.trans a2, a3.tr k (Nat.le_refl _)⟩, ⟨h19.trans b1, tb.go.trans b2, h52.trans b3, (tb.2.2 56 (by omega) (by omega) (by omega) (by omega)).trans b4, (tb.2.2 38 (by omega) (by omega) (by omega) (by omega)).trans b5⟩, ⟨c2.tr (tb.rate hf tk2), by omega, by omega⟩, ⟨(loc 64 (by omega) (by omega) (by omega)).trans d1, by rw [loc 66 (by omega) (by omega) (by omega)]; exact d2, ?_⟩, ⟨by omega, by rw [tb.1 21 (by omega)]; exact e2, ?_, fun j hj => ?_⟩, ⟨by rw [tb.1 44 (by omega)]; exact f1, by rw [tb.g (by decide)]; exact f2, fun j hj => by rw [tb.1 46 (by omega)]; exact f3 j hj⟩, fun z => (g1 (fun q => z (k.1.2 q))).tbl tb, g2, fun j hj => by rw [tb.g (by decide), ecd]; exact g3 j hj⟩
  · unfold FQ at d3 ⊢
    rw [loc 67 (by omega) (by omega) (by omega)]
    exact d3
  · rw [tb.g (by decide)]
    exact e3.of (fun j _ => tb.g (by decide) j)
  · rw [tb.en, tb.g (by decide)]
    exact e4 j hj
theorem AI.lx {t : Nat} {s V : RS} {γ0 : Nat} {L0 L : List Nat} {w w' : RS} (h : AI t s V γ0 L0 L w) (i : INV w') (x : LX w w') (h19 : w'.i 19 = w.i 19) (hf : fr w ≤ fr w') (tk : tkI w ≤ tkI w') (tk2 : tkI w' - tkI w ≤ fr w' - fr w) : AI t s V γ0 L0 L w' := h.tbl i x.tbl ((KP.rf t w).lx x) h19 (x.2.2.1 52 (by omega) (by omega)) x.tp hf tk tk2 (fun k _ _ _ => by rw [x.1])
theorem AI.loc {t : Nat} {s V : RS} {γ0 : Nat} {L0 L : List Nat} {w : RS} (h : AI t s V γ0 L0 L w) {k : Nat} (v : Int32) (h1 : k = 65 ∨ 68 ≤ k) (h2 : k ≤ 73) : AI t s V γ0 L0 L (w.setA k t v) := h.tbl (h.1.1.loc t v (by omega) (by omega)) (TBL.loc w t v (by omega) (by omega)) ((KP.rf t w).loc t v (by omega) (by omega) (Nat.le_refl _)) rfl rfl rfl (Int.le_refl _) (Int.le_refl _) (by show tkI w - tkI w ≤ fr w - fr w; omega) (fun k9 _ _ _ => congrFun (setA_nk (by omega)) t)
theorem AI.kpe {t : Nat} {s V : RS} {γ0 : Nat} {L0 L : List Nat} {y : Int32} {u U : RS} (hg : AI t s V γ0 L0 L u) (iV : INV V) (en : ENT t (cdI V).toNat L y u U) : KP t V U := by
  obtain ⟨⟨a1, a2, a3⟩, ⟨b1, b2, b3, b4, b5⟩, ⟨c2, c4, c5⟩, ⟨d1, d2, d3⟩, ⟨e1, e2, e3, e4⟩, ⟨f1, f2, f3⟩, g1, g2, g3⟩ := hg
  have cV := iV.cd
  exact a3.ent en (by rw [e2]; decide) (by omega) iV.2.2.2.2.2.2.1.1 (fun j hj => (e4 j hj).1)
theorem AI.ent {t : Nat} {s V : RS} {γ0 : Nat} {L0 L : List Nat} {y : Int32} {u U : RS} (hg : AI t s V γ0 L0 L u) (iV : INV V) (iU : INV U) (en : ENT t (cdI V).toNat L y u U) (hsl : 2 * (enI u + 1 - enI s) ≤ fr u - fr s) : AI t s V γ0 L0 (L ++ [(enI u).toNat]) U := by
  have kU := hg.kpe iV en
  obtain ⟨⟨a1, a2, a3⟩, ⟨b1, b2, b3, b4, b5⟩, ⟨c2, c4, c5⟩, ⟨d1, d2, d3⟩, ⟨e1, e2, e3, e4⟩, ⟨f1, f2, f3⟩, g1, g2, g3⟩ := hg
  have eu0 : 0 ≤ enI u := a1.2.2.2.2.2.2.1.1
  have ee : ((enI u).toNat : Int) = enI u := Int.toNat_of_nonneg eu0
  have ecd := en.cd
  have een := en.2.1
  have fU : fr U = fr u := by unfold fr; rw [en.1 11 (by decide)]
  have tU : tkI U = tkI u := by unfold tkI; rw [en.1 17 (by decide)]
  have kV : enI V ≤ enI u := a3.2.2.1.1
  have o26 : ∀ j ∈ L, gv U 26 j = gv u 26 j := fun j hj => by
    have := (e4 j hj).2.1
    unfold gv; rw [en.2.2.2.2.2.2.2.1 26 j (by omega) (by omega) (by omega) (Or.inl (by decide))]
  have n26 : gv U 26 (enI u).toNat = cdI u := by unfold gv; rw [en.2.2.2.2.2.2.2.2.1]; rfl
  refine ⟨⟨iU, (congrArg Int32.toInt (en.1 63 (by decide))).trans a2, kU⟩, ⟨(en.1 19 (by decide)).trans b1, en.go.trans b2, (en.1 52 (by decide)).trans b3, (en.1 56 (by decide)).trans b4, (en.1 38 (by decide)).trans b5⟩, ⟨?_, by omega, by omega⟩, ⟨by rw [en.2.2.2.1 64 (by decide) (by omega) (by decide)]; exact d1, by rw [en.2.2.2.1 66 (by decide) (by omega) (by decide)]; exact d2, en.fq eu0⟩, ⟨by omega, by rw [en.2.2.2.1 21 (by decide) (by omega) (by decide)]; exact e2, en.2.2.2.2.2.2.2.2.2.2.2, fun j hj => ?_⟩, ⟨by rw [en.2.2.2.1 44 (by decide) (by omega) (by decide)]; exact f1, by rw [en.g (by decide) (by omega) (by decide)]; exact f2, fun j hj => by rw [en.2.2.2.1 46 (by decide) (by omega) (by decide)]; exact f3 j hj⟩, fun z => (g1 (fun q => z (by rw [en.1 18 (by decide)]; exact q))).ent en (by rw [e2]; decide) eu0 (fun j hj => (e4 j (g2 j hj)).2.1), fun j hj => List.mem_append_left _ (g2 j hj), fun j hj => ?_⟩
  · have q3 : trI U = trI u := by unfold trI; rw [en.1 29 (by decide)]
    have q4 : caI U = caI u := by unfold caI; rw [en.1 33 (by decide)]
    have q5 : slI U = slI u := by unfold slI; rw [en.1 42 (by decide)]
    have q6 : peI U = peI u := by unfold peI; rw [en.1 59 (by decide)]
    unfold RATE at c2 ⊢
    rw [ecd, een, q3, q4, q5, q6, fU, tU]
    omega
  · rcases List.mem_append.mp hj with q | q
    · obtain ⟨j1, j2, j3⟩ := e4 j q
      rw [o26 j q]
      exact ⟨j1, by omega, j3⟩
    · rcases List.mem_cons.mp q with q | q
      · rw [q, n26]
        exact ⟨by omega, by omega, e1⟩
      · exact absurd q List.not_mem_nil
  · rcases List.mem_append.mp hj with q | q
    · rw [o26 j q, ecd]
      exact g3 j q
    · rcases List.mem_cons.mp q with q | q
      · right; rw [q, n26, ecd]
      · exact absurd q List.not_mem_nil
/-- an arm is laid -/
theorem AI.add {t : Nat} {s V : RS} {γ0 : Nat} {L0 L : List Nat} {B w : RS} (hg : AI t s V γ0 L0 L B) (iV : INV V) (iw : INV w) (tp : tpI w = t) (k : KP t B w) (w19 : w.i 19 = B.i 19) (w43 : w.i 43 = B.i 43) (w52 : w.i 52 = B.i 52) (w56 : w.i 56 = B.i 56) (w38 : w.i 38 = B.i 38) (ra : RATE B w) (hf : fr B ≤ fr w) (tk : tkI B ≤ tkI w) (g46 : bel 46 (goI s) B w) (g0 : (γ0 : Int) = goI s) (loc : ∀ k : Nat, 64 ≤ k → k ≤ 67 → k ≠ 65 → w.a k t = B.a k t) (hp : ¬ 0 ≤ w.i 18 → PCE (cdI V).toNat V B w) : AI t s V γ0 L L w := by
  obtain ⟨⟨a1, a2, a3⟩, ⟨b1, b2, b3, b4, b5⟩, ⟨c2, c4, c5⟩, ⟨d1, d2, d3⟩, ⟨e1, e2, e3, e4⟩, ⟨f1, f2, f3⟩, g1, g2, g3⟩ := hg
  have cV := iV.cd
  have ek : ((cdI V).toNat : Int) = cdI V := Int.toNat_of_nonneg cV.1
  have kc := k.2.1
  have ke := k.2.2.1
  have kg := k.2.2.2.2.2.2.1
  have kc1 := kc.1
  have ke1 := ke.1
  have gw : goI w = goI B := by unfold goI; rw [w43]
  refine ⟨⟨iw, tp, a3.tr k (Nat.le_refl _)⟩, ⟨w19.trans b1, gw.trans b2, w52.trans b3, w56.trans b4, w38.trans b5⟩, ⟨c2.tr ra, by omega, by omega⟩, ⟨(loc 64 (by omega) (by omega) (by omega)).trans d1, by rw [loc 66 (by omega) (by omega) (by omega)]; exact d2, ?_⟩, ⟨by omega, by rw [kc.2.1 _ (by omega)]; exact e2, ?_, fun j hj => ?_⟩, ⟨by rw [kg.2.1 γ0 (by omega)]; exact f1, ?_, f3.tr g46 (Int.le_refl _)⟩, fun z => (g1 (fun q => z (k.1.2 q))).add (hp z) a3 k a1.tn (by omega) (by omega) (fun j hj => (e4 j hj).2.1) g3, fun j hj => hj, fun j hj => Or.inl hj⟩
  · unfold FQ at d3 ⊢
    rw [loc 67 (by omega) (by omega) (by omega)]
    exact d3
  · have e : gv w 22 (cdI V).toNat = gv B 22 (cdI V).toNat := by unfold gv; rw [kc.2.2.1 _ (by omega)]
    rw [e]
    refine e3.of (fun j hj => ?_)
    unfold gv; rw [ke.2.2.2.1 j (e4 j hj).2.1]
  · obtain ⟨j1, j2, j3⟩ := e4 j hj
    have e : gv w 26 j = gv B 26 j := by unfold gv; rw [ke.2.2.1 j j2]
    rw [e]
    exact ⟨j1, by omega, j3⟩
  · unfold gv; rw [kg.2.2.1 γ0 (by omega)]; exact f2
