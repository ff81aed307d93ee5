/-! reading: the end of a loop -/
theorem PATCHES {N : Nat} (hN : 4000 ≤ N) {v : RS} {γ0 k1 : Nat} {fp : Int32} (hI : INV v) (hγ : (γ0 : Int) < goI v) (hk1 : (k1 : Int) < cdI v) (hop : ¬ v.a 21 k1 = 36) : ∃ (Lc Lb : List Nat) (Q1 Q2 Q : RS) (x : Int32), ISCH v (hd v false γ0) Lc ∧ ISCH v (hd v true γ0) Lb ∧ (∀ k ∈ Lc, (k : Int) < cdI v) ∧ (∀ k ∈ Lb, (k : Int) < cdI v) ∧ f_X12_patch N v (v.a 49 γ0) fp = some Q1 ∧ (∀ k : Nat, k ≠ 22 → Q1.a k = v.a k) ∧ f_X12_emit N Q1 15 fp = some (v.i 20, Q2) ∧ Q2.i 20 = x ∧ (∀ k : Nat, k ≠ 21 → k ≠ 22 → k ≠ 23 → Q2.a k = v.a k) ∧ f_X12_patch N (Q2.setA 22 k1 x) (v.a 48 γ0) x = some Q ∧ (∀ j : Nat, j ≠ 20 → Q.i j = v.i j) ∧ Q.b = v.b ∧ cdI Q = cdI v + 1 ∧ x.toInt = cdI v + 1 ∧ (∀ k : Nat, k ≠ 21 → k ≠ 22 → k ≠ 23 → Q.a k = v.a k) ∧ (∀ k : Nat, (k : Int) < cdI v → Q.a 21 k = v.a 21 k ∧ Q.a 23 k = v.a 23 k) ∧ Q.a 21 (cdI v).toNat = 15 ∧ Q.a 22 (cdI v).toNat = fp ∧ (∀ k : Nat, (k : Int) < cdI v → k ∉ Lc → k ∉ Lb → ¬ k = k1 → Q.a 22 k = v.a 22 k) ∧ (∀ k ∈ Lc, Q.a 22 k = fp) ∧ (∀ k ∈ Lb, Q.a 22 k = x) ∧ Q.a 22 k1 = x := by
  have cv := hI.cd
  obtain ⟨Lc, c1, c2⟩ := hI.tn γ0 false hγ
  obtain ⟨Lb, b1, b2⟩ := hI.tn γ0 true hγ
  have dj := hI.2.2.2.1.1.2.1
  have dis : ∀ k : Nat, k ∈ Lc → k ∈ Lb → False := fun k h1 h2 => by
    have := (dj γ0 γ0 false true Lc Lb k hγ hγ c1 b1 h1 h2).2
    exact absurd this (by decide)
  have nc : k1 ∉ Lc := fun h => hop (c1.op k1 h)
  have nb : k1 ∉ Lb := fun h => hop (b1.op k1 h)
  have e1 := p_pt (N := N) hN (σ := v) (site := v.a 49 γ0) (w := fp) c1 (fun x hx => by have := c2 x hx; omega)
  obtain ⟨Q1, hQ1⟩ : ∃ Q1, Q1 = PT fp Lc v := ⟨_, rfl⟩
  have i1 : Q1.i = v.i := by rw [hQ1]; exact PT.eI
  have a1 : ∀ k : Nat, k ≠ 22 → Q1.a k = v.a k := fun k hk => by rw [hQ1]; exact PT.eA hk
  have a22 : ∀ j : Nat, Q1.a 22 j = if j ∈ Lc then fp else v.a 22 j := fun j => by rw [hQ1]; exact PT.e22 j
  have bb1 : Q1.b = v.b := by rw [hQ1]; exact PT.eB
  rw [← hQ1] at e1
  clear hQ1
  have cd1 : cdI Q1 = cdI v := by unfold cdI; rw [i1]
  have e2 := p_em (N := N) (u := Q1) 15 fp (by omega) (by omega)
  obtain ⟨Q2, hQ2⟩ : ∃ Q2, Q2 = EM Q1 15 fp := ⟨_, rfl⟩
  have i2 : ∀ j : Nat, j ≠ 20 → Q2.i j = v.i j := fun j hj => by rw [hQ2, EM.i hj, i1]
  have cd2 : cdI Q2 = cdI v + 1 := by rw [hQ2, EM.cd (by omega) (by omega), cd1]
  have q21 : ∀ j : Nat, Q2.a 21 j = if j = (cdI v).toNat then 15 else v.a 21 j := fun j => by rw [hQ2, EM.a21, cd1, a1 21 (by decide)]
  have q22 : ∀ j : Nat, Q2.a 22 j = if j = (cdI v).toNat then fp else if j ∈ Lc then fp else v.a 22 j := fun j => by rw [hQ2, EM.a22, cd1, a22]
  have q23 : ∀ j : Nat, Q2.a 23 j = if j = (cdI v).toNat then 0 else v.a 23 j := fun j => by rw [hQ2, EM.a23, cd1, a1 23 (by decide)]
  have qa : ∀ k : Nat, k ≠ 21 → k ≠ 22 → k ≠ 23 → Q2.a k = v.a k := fun k h1 h2 h3 => by rw [hQ2, EM.a h1 h2 h3, a1 k h2]
  have bb2 : Q2.b = v.b := by rw [hQ2]; exact bb1
  rw [← hQ2] at e2
  have e20 : Q1.i 20 = v.i 20 := by rw [i1]
  rw [e20] at e2
  clear hQ2
  obtain ⟨Q3, hQ3⟩ : ∃ Q3, Q3 = Q2.setA 22 k1 (Q2.i 20) := ⟨_, rfl⟩
  have i3 : Q3.i = Q2.i := by rw [hQ3]; rfl
  have qa3 : ∀ k : Nat, k ≠ 22 → Q3.a k = Q2.a k := fun k hk => by rw [hQ3]; exact setA_nk hk
  have q322 : ∀ j : Nat, j ≠ k1 → Q3.a 22 j = Q2.a 22 j := fun j hj => by rw [hQ3]; exact setA_ne hj
  have q3k : Q3.a 22 k1 = Q2.i 20 := by rw [hQ3]; exact setA_at
  have bb3 : Q3.b = v.b := by rw [hQ3]; exact bb2
  have isb : ISCH Q3 (v.a 48 γ0).toInt Lb := ISCH.of (show ISCH v (v.a 48 γ0).toInt Lb from b1) (fun y hy => by
    have hl := b2 y hy
    refine ⟨by rw [qa3 21 (by decide), q21, if_neg (by omega)], ?_⟩
    rw [q322 y (fun e => nb (by rw [← e]; exact hy)), q22, if_neg (by omega), if_neg (fun q => dis y q hy)])
  have e3 := p_pt (N := N) hN (σ := Q3) (site := v.a 48 γ0) (w := Q2.i 20) isb (fun x hx => by have := b2 x hx; omega)
  obtain ⟨Q, hQ⟩ : ∃ Q, Q = PT (Q2.i 20) Lb Q3 := ⟨_, rfl⟩
  have iQ : Q.i = Q2.i := by rw [hQ, PT.eI, i3]
  have aQ : ∀ k : Nat, k ≠ 22 → Q.a k = Q2.a k := fun k hk => by rw [hQ, PT.eA hk, qa3 k hk]
  have aQ22 : ∀ j : Nat, Q.a 22 j = if j ∈ Lb then Q2.i 20 else Q3.a 22 j := fun j => by rw [hQ]; exact PT.e22 j
  have bQ : Q.b = v.b := by rw [hQ, PT.eB]; exact bb3
  rw [← hQ] at e3
  clear hQ
  rw [hQ3] at e3
  have cQ : cdI Q = cdI v + 1 := by
    have : cdI Q = cdI Q2 := by unfold cdI; rw [iQ]
    omega
  refine ⟨Lc, Lb, Q1, Q2, Q, Q2.i 20, c1, b1, c2, b2, e1, a1, e2, rfl, qa, e3, fun j hj => by rw [iQ]; exact i2 j hj, bQ, cQ, cd2, fun k h1 h2 h3 => (aQ k h2).trans (qa k h1 h2 h3), fun k hk => ⟨by rw [aQ 21 (by decide), q21, if_neg (by omega)], by rw [aQ 23 (by decide), q23, if_neg (by omega)]⟩, by rw [aQ 21 (by decide), q21, if_pos rfl], ?_, fun k hk h1 h2 h3 => ?_, fun k hk => ?_, fun k hk => ?_, ?_⟩
  · rw [aQ22, if_neg (fun q => by have := b2 _ q; omega), q322 _ (by omega), q22, if_pos rfl]
  · rw [aQ22, if_neg h2, q322 k h3, q22, if_neg (by omega), if_neg h1]
  · have := c2 k hk
    rw [aQ22, if_neg (fun q => dis k hk q), q322 k (fun e => nc (by rw [← e]; exact hk)), q22, if_neg (by omega), if_pos hk]
  · rw [aQ22, if_pos hk]
  · rw [aQ22, if_neg nb]; exact q3k
/-- the frame of a statement that had a goal is done -/
theorem LEND {N n : Nat} {s v W : RS} {t : Nat} {P : RS → Prop} {x xc xb : Int32} {γ0 : Nat} {Lc Lb : List Nat} {Z : Nat → Prop} (h9 : t < 998) (hx : x = 0 ∨ x = 1) (hC : ∀ (u : RS), PS t s u → fr v ≤ fr u → ok (f_X12_parse_10 N n u) P) (hI : INV s) (hpp : PPR γ0 Lc Lb xc xb Z v W) (i2 : INV v) (wi : ∀ j : Nat, j ≠ 20 → j ≠ 38 → j ≠ 43 → j ≠ 52 → W.i j = v.i j) (wf : ∀ k : Nat, 64 ≤ k → k ≤ 73 → W.a k = v.a k) (tp : tpI v = t) (kv : KP t s v) (g0 : (γ0 : Int) = goI s) (e19 : v.i 19 = s.i 19) (e52 : W.i 52 = s.i 52) (e56 : v.i 56 = s.i 56) (hse1 : seI s ≤ seI W) (hse2 : seI W ≤ seI v) (snW : SNW s W) (ra : RATE s v) (hcd : cdI W - cdI s ≤ 3 * (fr v - fr s)) (f1 : fr s ≤ fr v) (tk1 : tkI s ≤ tkI v) (hs : ∀ k : Nat, k ∈ Lc ∨ k ∈ Lb ∨ Z k → cdI s ≤ (k : Int)) (hT : ¬ 0 ≤ v.i 18 → TS s (W.setI 75 x)) : ok (((f_X12_over N W x).bind fun p => some p).bind fun p => f_X12_parse_10 N n p) P := by
  have t2 := i2.2.2.2.1
  have hc := hpp.chn t2
  have gW := hpp.2.2.1
  have gV := hpp.2.2.2.1
  have he := hpp.1
  have e43 : W.i 43 = s.i 43 := Int32.toInt_inj.mp (show goI W = goI s by omega)
  have fW : fr W = fr v := by unfold fr; rw [wi 11 (by decide) (by decide) (by decide) (by decide)]
  have tkW : tkI W = tkI v := by unfold tkI; rw [wi 17 (by decide) (by decide) (by decide) (by decide)]
  have kW : KP t s W := kv.ppr hpp t2 (by omega) hse1 (wi 18 (by decide) (by decide) (by decide) (by decide)) hs (fun k k1 k2 j _ => by rw [wf k k1 k2])
  have lW : LXI W := i2.1.of (wi 2 (by decide) (by decide) (by decide) (by decide)) (wi 10 (by decide) (by decide) (by decide) (by decide)) (wi 11 (by decide) (by decide) (by decide) (by decide)) (wi 12 (by decide) (by decide) (by decide) (by decide)) (wi 14 (by decide) (by decide) (by decide) (by decide)) he.2.1
  have kg := kv.2.2.2.2.2.2.1
  have kw := kv.2.2.2.2.2.2.2.2.1
  have waE : waI v = waI s := by unfold waI; rw [e56]
  have deE : deI W = deI s := by unfold deI; rw [e52]
  have ts := hI.2.2.2.1
  have tW : TAB W := t2.fin he hc hpp.2.1 (by omega) hse2 (fun γ hγ => by
    have := (ts.2.2.2.2.2.2.1 γ (by omega)).2
    have e : gv v 47 γ = gv s 47 γ := by unfold gv; rw [kg.2.2.1 γ (by omega)]
    omega) (fun w hw => by
    have := (ts.2.2.2.2.2.2.2.2.1 w (by omega)).2.2.2
    have e : gv v 58 w = gv s 58 w := by unfold gv; rw [kw.2.2 w (by omega)]
    omega) (by rw [wi 75 (by decide) (by decide) (by decide) (by decide)]; exact i2.r)
  have sm : SAME s W := ⟨(wi 19 (by decide) (by decide) (by decide) (by decide)).trans e19, e43, e52, (wi 56 (by decide) (by decide) (by decide) (by decide)).trans e56⟩
  have rt : RATE s W := by
    have q2 := he.en
    have q3 := he.tt
    have q4 := he.ca
    have q5 := he.sl
    have q6 := he.pe
    unfold RATE at *
    rw [q2, q3, q4, q5, q6, fW, tkW]
    omega
  have iW : INV W := hI.mkS kW lW ((wi 15 (by decide) (by decide) (by decide) (by decide)).trans i2.2.2.1) tW sm snW rt (by omega) (by omega)
  exact IF3 (q := W) h9 hx (fun u hu hf => hC u hu (by omega)) iW (by unfold tpI at *; rw [wi 63 (by decide) (by decide) (by decide) (by decide)]; exact tp) kW sm snW rt (by omega) (by omega) (fun z => hT (fun q => z (by rw [wi 18 (by decide) (by decide) (by decide) (by decide)]; exact q)))
theorem PPR.i {γ0 : Nat} {Lc Lb : List Nat} {xc xb : Int32} {Z : Nat → Prop} {v W W' : RS} (h : PPR γ0 Lc Lb xc xb Z v W) (hw : TBS W W') : PPR γ0 Lc Lb xc xb Z v W' := by
  obtain ⟨h1, h2, h3, h4, h5, h6, h7, h8, h9, h10, h11⟩ := h
  have e := hw.1
  refine ⟨⟨fun k a b => (e.1 k a b).trans (h1.1 k a b), e.2.1.trans h1.2.1, fun j a b c d g i => (e.2.2 j a b c d g i).trans (h1.2.2 j a b c d g i)⟩, by rw [hw.cd]; exact h2, by rw [hw.go]; exact h3, h4, h5, h6, fun k hk => ⟨by rw [hw.2.1 21 (by decide) (by decide)]; exact (h7 k hk).1, by rw [hw.2.1 23 (by decide) (by decide)]; exact (h7 k hk).2⟩, fun k a b c d => by rw [hw.2.1 22 (by decide) (by decide)]; exact h8 k a b c d, fun k hk => by rw [hw.2.1 22 (by decide) (by decide)]; exact h9 k hk, fun k hk => by rw [hw.2.1 22 (by decide) (by decide)]; exact h10 k hk, h11⟩
theorem p_jt {N : Nat} {v : RS} (x : Int32) : ∃ z, f_X12_isJustTrue N v x = some (z, v) ∧ (z = 0 ∨ z = 1 ∧ ¬ x ≤ 0 ∧ v.i 17 = x + 1) := by
  unfold f_X12_isJustTrue f_X12_isJustTrue_18
  by_cases c : x ≤ 0
  · rw [if_pos c]; exact ⟨0, rfl, Or.inl rfl⟩
  · rw [if_neg c]
    by_cases d : v.i 17 = x + 1
    · rw [if_pos d]; exact ⟨1, rfl, Or.inr ⟨rfl, c, d⟩⟩
    · rw [if_neg d]; exact ⟨0, rfl, Or.inl rfl⟩
theorem inv_lgr {s U V : RS} {t γ : Nat} (h : INV U) (hv : LGF s U V t γ) (h2 : 2 * (goI U + 1) ≤ fr U) : INV V := by
  obtain ⟨g0, g1, g2, g3, g4, g5, g6, g7, g8, g9, g10, g11, g12⟩ := hv
  have gi : ∀ j : Nat, j ≠ 43 → V.i j = U.i j := g2
  obtain ⟨b1, b2, b3, b4, b5, b6, b7, b8, b9, b10, b11, b12⟩ := h.2.2.2.2
  have e1 : cdI V = cdI U := by unfold cdI; rw [gi 20 (by decide)]
  have e2 : enI V = enI U := by unfold enI; rw [gi 24 (by decide)]
  have e3 : trI V = trI U := by unfold trI; rw [gi 29 (by decide)]
  have e4 : caI V = caI U := by unfold caI; rw [gi 33 (by decide)]
  have e5 : seI V = seI U := by unfold seI; rw [gi 38 (by decide)]
  have e6 : slI V = slI U := by unfold slI; rw [gi 42 (by decide)]
  have e8 : deI V = deI U := by unfold deI; rw [gi 52 (by decide)]
  have e9 : waI V = waI U := by unfold waI; rw [gi 56 (by decide)]
  have e10 : peI V = peI U := by unfold peI; rw [gi 59 (by decide)]
  have e11 : fr V = fr U := by unfold fr; rw [gi 11 (by decide)]
  have e12 : op V = op U := by unfold op; rw [gi 19 (by decide)]
  have e13 : tkI V = tkI U := by unfold tkI; rw [gi 17 (by decide)]
  refine ⟨h.1.of (gi 2 (by decide)) (gi 10 (by decide)) (gi 11 (by decide)) (gi 12 (by decide)) (gi 14 (by decide)) g3, RB.of (gi 2 (by decide)) (gi 3 (by decide)) (g4 4 (by omega)) (g4 6 (by omega)) (g4 7 (by omega)) h.2.1, (gi 15 (by decide)).trans h.2.2.1, g12, ?_⟩
  unfold NUM
  rw [e1, e2, e3, e4, e5, e6, e8, e9, e10, e11, e12, e13, g1]
  exact ⟨b1, b2, b3, b4, b5, b6, b7, ⟨by omega, by omega⟩, b9, b10, b11, b12⟩
