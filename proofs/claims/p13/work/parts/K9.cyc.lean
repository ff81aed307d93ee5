section
/-! reading: try: a catch -/
theorem TRC {N b : Nat} (hN : 1000 ≤ N) (hbk : 1 ≤ b → RUNBW N (b - 1)) {m : Nat} {s w : RS} {t id : Nat} {CL : List Nat} {e : Int} {P : RS → Prop} (hI : INV s) (h9 : t < 996) (hb : 2 * (t : Int) ≤ fr s + 12 * op s + 2) (hc : 900 - fr s ≤ b) (hF : ∀ u, FS' s u → P u) (hid : (id : Int) = trI s) (hw : TI t s id CL e w) (w65 : w.a 65 t = 2) (tok : w.i 10 = 425) (hn : 36000 + 40 ≤ (m : Int) + 40 * fr w) (hC : ∀ (m' : Nat) (w' : RS) (CL' : List Nat), TI t s id CL' e w' → w'.a 65 t = 2 → CL' ≠ [] → fr w + 1 ≤ fr w' → (m : Int) + 40 * fr w + 60 ≤ m' + 40 * fr w' → ok (f_X12_parse_10 N (m' + 1) w') P) : ok (f_X12_parse_10 N (m + 1) w) P := by
  obtain ⟨⟨a1, a2, a3, a4⟩, ⟨b1, b2, b3, b4, b5⟩, ⟨c1, c2⟩, ⟨d1, d2, d3⟩, ⟨e1, e2, e3, e4⟩, ⟨f1, f2, f3⟩, ⟨g1, g2, g3, g4⟩, ⟨h1, h2⟩, k1⟩ := (show TI t s id CL e w from hw)
  have fw := a1.1.f0
  have nw := a1.2.2.2.2
  have ns := hI.2.2.2.2
  have fs := hI.1.f0
  have ibx : ib (w.i 63) 1000 := tp_ib a2 (by omega)
  have nx : (w.i 63).toNatClampNeg = t := tp_nat a2
  refine lp_15 a2 (by omega) a1.2.2.1 e1 ?_
  unfold f_X12_trying
  rw [if_pos ibx, nx, if_neg (by rw [w65]; decide), if_neg (by rw [w65]; decide), if_pos w65, if_pos tok, bind_some]
  refine CATH hN hI (by omega) hF hid hw tok ibx nx (by omega) (fun U NL cat sen hne iU kU pU tU U19 U52 U75 U18 fU tkU raU fcU chU U71 locU => ?_)
  have fUf := iU.1.f0
  have oU : op U = op s := by unfold op; rw [U19, b1]
  have seU := sen.1
  have seW : seI w = seI s := by unfold seI; rw [b5]
  have slU := cat.2.2.2.2.2.2.2.2
  have kslw := a3.2.2.2.2.2.1.2.1
  have nU : SNW s U := by
    have s0 := ns.2.2.2.2.2.1
    refine ⟨by omega, fun x x1 x2 => ?_⟩
    have e : x = (seI w).toNat := by omega
    rw [e, sen.2.2.1]; exact kslw
  refine CALLBW (hbk (by omega)) iU pU tU (by omega) (by omega) (by omega) (by omega) (fun u hu => hF u (FS'.kp kU hu)) (fun m2 v hv hm2 => ?_)
  obtain ⟨v1, v2, v3, v4, v5, v6, v7, v8, v9, v10, v11, v12⟩ := hv
  have fv := v1.1.f0
  have cv := v1.cd
  obtain ⟨m3, rfl⟩ : ∃ m3, m2 = m3 + 1 := ⟨m2 - 1, by omega⟩
  have push2 : ((m3 + 1 : Nat) : Int) = (m3 : Int) + 1 := by omega
  rw [push2] at hm2
  have lv : ∀ k : Nat, 64 ≤ k → k ≤ 73 → k ≠ 65 → k ≠ 71 → k ≠ 72 → v.a k t = w.a k t := fun k q1 q2 q3 q4 q5 => (v12 k q1 q2 q3).trans (locU k q1 q2 q4 q5)
  refine lp_15 v2 (by omega) v1.2.2.1 ((lv 64 (by omega) (by omega) (by omega) (by omega) (by omega)).trans e1) ?_
  unfold f_X12_trying
  rw [if_pos (tp_ib v2 (by omega)), tp_nat v2, if_neg (by rw [v11]; decide), if_neg (by rw [v11]; decide), if_neg (by rw [v11]; decide), if_pos v11]
  have s68 : ∃ r : Int32, (if (v.i 75) = 0 then (if (v.a 68 t) = 1 then f_X12_trying_464 N (RS.setA v 68 t 1) (v.i 63) else f_X12_trying_464 N (RS.setA v 68 t 0) (v.i 63)) else f_X12_trying_464 N (RS.setA v 68 t 1) (v.i 63)) = f_X12_trying_464 N (RS.setA v 68 t r) (v.i 63) ∧ (v.i 75 = 1 → r = 1) ∧ (v.a 68 t = 1 → r = 1) := by
    by_cases c : v.i 75 = 0
    · rw [if_pos c]
      by_cases c' : v.a 68 t = 1
      · rw [if_pos c']; exact ⟨1, rfl, fun _ => rfl, fun _ => rfl⟩
      · rw [if_neg c']; exact ⟨0, rfl, fun q => by rw [c] at q; exact absurd q (by decide), fun q => absurd q c'⟩
    · rw [if_neg c]; exact ⟨1, rfl, fun _ => rfl, fun _ => rfl⟩
  obtain ⟨r, er, hr1, hr2⟩ := s68
  rw [er]
  clear er
  unfold f_X12_trying_464
  obtain ⟨X, hX⟩ : ∃ X, X = RS.setA v 68 t r := ⟨_, rfl⟩
  have iX : X.i = v.i := by rw [hX]; rfl
  have bX : X.b = v.b := by rw [hX]; rfl
  have aX : ∀ k : Nat, k ≠ 68 → X.a k = v.a k := fun k hk => by rw [hX]; exact setA_nk hk
  have X68 : X.a 68 t = r := by rw [hX]; exact setA_at
  have kX : KP t v X := by rw [hX]; exact (KP.rf t v).loc t _ (by omega) (by omega) (Nat.le_refl _)
  have tbX : TBL v X := by rw [hX]; exact TBL.loc v t _ (by omega) (by omega)
  have iiX : INVW X := by rw [hX]; exact v1.loc t _ (by omega) (by omega)
  rw [← hX]
  clear hX
  have cX : cdI X = cdI v := tbX.cd
  rw [if_pos (tp_ib v2 (by omega)), tp_nat v2, p_em 34 (X.a 66 t) (by omega) (by omega)]
  have x71 : X.a 71 t = s.i 38 := by rw [aX 71 (by decide), v12 71 (by omega) (by omega) (by omega), U71, b5]
  obtain ⟨E, hE⟩ : ∃ E, E = EM X 34 (X.a 66 t) := ⟨_, rfl⟩
  have iE : ∀ j : Nat, j ≠ 20 → E.i j = v.i j := fun j hj => by rw [hE, ← iX]; exact EM.i hj
  have aE : ∀ k : Nat, k ≠ 21 → k ≠ 22 → k ≠ 23 → E.a k = X.a k := fun k q1 q2 q3 => by rw [hE]; exact EM.a q1 q2 q3
  have cE : cdI E = cdI v + 1 := by rw [hE, EM.cd (by omega) (by omega), cX]
  have E21 : E.a 21 (cdI v).toNat = 34 := by rw [hE, EM.a21, if_pos (by rw [cX])]
  have bE : E.b = v.b := by rw [hE]; exact bX
  have kE : KP t v E := by rw [hE]; exact kX.em cv.1 (by omega)
  have tabE : TAB E := by rw [hE]; exact iiX.2.2.2.1.em (by omega) (by omega)
  show ok (f_X12_parse_10 N m3 (RS.setA (RS.setI (EM X 34 (X.a 66 t)) 38 ((EM X 34 (X.a 66 t)).a 71 t)) 65 t 2)) P
  rw [← hE, aE 71 (by decide) (by decide) (by decide), x71]
  clear hE
  obtain ⟨w', hw'⟩ : ∃ w', w' = RS.setA (RS.setI E 38 (s.i 38)) 65 t 2 := ⟨_, rfl⟩
  have wi : ∀ j : Nat, j ≠ 38 → w'.i j = E.i j := fun j hj => by rw [hw']; exact if_neg hj
  have w38 : w'.i 38 = s.i 38 := by rw [hw']; rfl
  have wa : ∀ k : Nat, k ≠ 65 → w'.a k = E.a k := fun k hk => by rw [hw', setA_nk hk]; rfl
  have w65' : w'.a 65 t = 2 := by rw [hw']; exact setA_at
  have wb : w'.b = v.b := by rw [hw']; exact bE
  have tbw : TBS E w' := by rw [hw']; exact (TBS.i38 E _).tr (TBL.loc _ t _ (by omega) (by omega)).tbs
  have wbel : ∀ k : Nat, 64 ≤ k → k ≤ 73 → bel k t E w' := fun k _ _ j hj => by rw [hw', setA_ne (by omega)]; rfl
  have kw38 : KP t v (w'.setI 38 (v.i 38)) := by
    refine kE.tbs (W := w'.setI 38 (v.i 38)) (tbw.tr (TBS.i38 _ _)) (Int.le_refl _) (fun z => ?_) wbel
    show 0 ≤ w'.i 18
    rw [wi 18 (by decide)]; exact z
  rw [← hw']
  clear hw'
  have wv : ∀ j : Nat, j ≠ 20 → j ≠ 38 → w'.i j = v.i j := fun j q1 q2 => (wi j q2).trans (iE j q1)
  have wav : ∀ k : Nat, k ≠ 21 → k ≠ 22 → k ≠ 23 → k ≠ 65 → k ≠ 68 → w'.a k = v.a k := fun k q1 q2 q3 q4 q5 => (wa k q4).trans ((aE k q1 q2 q3).trans (aX k q5))
  have ksE : KP t s E := (kU.tr v3 (Nat.le_refl _)).tr kE (Nat.le_refl _)
  have sew : seI w' = seI s := by unfold seI; rw [w38]
  have kw : KP t s w' := ksE.tbs tbw (by omega) (fun z => by rw [wi 18 (by decide)]; exact z) wbel
  have fw' : fr w' = fr v := by unfold fr; rw [wv 11 (by decide) (by decide)]
  have tkw' : tkI w' = tkI v := by unfold tkI; rw [wv 17 (by decide) (by decide)]
  have cw' : cdI w' = cdI v + 1 := by rw [tbw.cd]; exact cE
  have q2 : enI w' = enI v := by unfold enI; rw [wv 24 (by decide) (by decide)]
  have q3 : trI w' = trI v := by unfold trI; rw [wv 29 (by decide) (by decide)]
  have q4 : caI w' = caI v := by unfold caI; rw [wv 33 (by decide) (by decide)]
  have q6 : slI w' = slI v := by unfold slI; rw [wv 42 (by decide) (by decide)]
  have q7 : goI w' = goI v := by unfold goI; rw [wv 43 (by decide) (by decide)]
  have q8 : deI w' = deI v := by unfold deI; rw [wv 52 (by decide) (by decide)]
  have q9 : waI w' = waI v := by unfold waI; rw [wv 56 (by decide) (by decide)]
  have q10 : peI w' = peI v := by unfold peI; rw [wv 59 (by decide) (by decide)]
  have q1 : op w' = op v := by unfold op; rw [wv 19 (by decide) (by decide)]
  have seE : seI E = seI v := by unfold seI; rw [iE 38 (by decide)]
  have seV : seI v = seI U := by unfold seI; rw [v6]
  have tab' : TAB w' := tabE.tbs tbw (by omega) (wi 52 (by decide)) (by rw [wv 75 (by decide) (by decide)]; exact v1.r)
  have nv := v1.2.2.2.2
  have s0 := ns.2.2.2.2.2.1
  have ii' : INVW w' := by
    refine ⟨v1.1.of (wv 2 (by decide) (by decide)) (wv 10 (by decide) (by decide)) (wv 11 (by decide) (by decide)) (wv 12 (by decide) (by decide)) (wv 14 (by decide) (by decide)) (by rw [wb]), hI.2.1.kp kw, (wv 15 (by decide) (by decide)).trans v1.2.2.1, tab', ?_⟩
    have ksl := kw.2.2.2.2.2.1.2.1
    unfold RATE at v5
    unfold RATN at raU d1
    have hcd := cat.cd
    have ns1 := ns.2.1
    unfold NUMW at nv ⊢
    rw [q1, cw', q2, q3, q4, sew, q6, q7, q8, q9, q10, fw', tkw']
    omega
  have kU38 : KP t U (w'.setI 38 (v.i 38)) := v3.tr kw38 (Nat.le_refl _)
  have e1' : (1 : Int32).toInt = 1 := by decide
  have des := ns.2.2.2.2.2.2.2.2.1
  have hop := hI.op
  have dU : deI U = deI s + 1 := by
    have h0 : 0 ≤ (s.i 52).toInt := des.1
    have h4 : 4 * (s.i 52).toInt ≤ fr s + 2 * op s + 2 := des.2
    unfold deI
    rw [U52, b3, toInt_add] <;> rw [e1'] <;> omega
  have nU' := iU.2.2.2.2
  have gU : goI U = goI s := by rw [cat.go]; unfold goI; rw [b2]
  have caU := cat.2.2.2.2.2.1
  have trU : trI U = trI w := by unfold trI; rw [cat.1 29 (by omega) (by omega) (by omega) (by omega) (by omega)]
  have waU : waI U = waI w := by unfold waI; rw [cat.1 56 (by omega) (by omega) (by omega) (by omega) (by omega)]
  have cdU := cat.cd
  have caw := a3.2.2.2.2.1.1
  have ws0 := ns.2.2.2.2.2.2.2.2.2.1
  have ca' : ∀ k : Nat, k < 64 → k ≠ 30 → ¬ (34 ≤ k ∧ k ≤ 37) → k ≠ 40 → k ≠ 41 → U.a k = w.a k := cat.2.1
  have g57 : ∀ k : Nat, k = 57 ∨ k = 58 → gv w' k (waI s).toNat = gv w k (waI s).toNat := fun k hk => by
    have hlt : (((waI s).toNat : Nat) : Int) < waI U := by omega
    have kq := v3.2.2.2.2.2.2.2.2.1
    have e9 : v.a k (waI s).toNat = U.a k (waI s).toNat := by
      rcases hk with q | q
      · subst q; exact kq.2.1 _ hlt
      · subst q; exact kq.2.2 _ hlt
    unfold gv
    rw [wav k (by omega) (by omega) (by omega) (by omega) (by omega), e9, ca' k (by omega) (by omega) (by omega) (by omega) (by omega)]
  have w21s : ∀ k : Nat, (k : Int) < cdI U → w'.a 21 k = w.a 21 k ∧ w'.a 22 k = w.a 22 k := fun k hk => by
    have h21 : w'.a 21 k = U.a 21 k := kU38.2.1.2.1 k hk
    have h22 : w'.a 22 k = U.a 22 k := kU38.2.1.2.2.1 k hk
    exact ⟨by rw [h21, ca' 21 (by omega) (by omega) (by omega) (by omega) (by omega)], by rw [h22, ca' 22 (by omega) (by omega) (by omega) (by omega) (by omega)]⟩
  have w3x : ∀ j : Nat, (j : Int) < trI U → w'.a 30 j = U.a 30 j ∧ w'.a 31 j = U.a 31 j := fun j hj => ⟨kU38.2.2.2.1.2.1 j hj, kU38.2.2.2.1.2.2.1 j hj⟩
  have w35 : ∀ j : Nat, (j : Int) < caI U → w'.a 35 j = U.a 35 j ∧ w'.a 37 j = U.a 37 j := fun j hj => ⟨kU38.2.2.2.2.1.2.2.1 j hj, kU38.2.2.2.2.1.2.2.2.2.1 j hj⟩
  have mem : ∀ j ∈ CL ++ NL, (j : Int) < caI U := fun j hj => by
    rcases List.mem_append.mp hj with q | q
    · have := (g4 j q).2.1; omega
    · exact (cat.2.2.2.2.2.2.1 j q).2
  have idU : (id : Int) < trI U := by omega
  have caV := v3.2.2.2.2.1.1
  have w68 : w'.a 68 t = r := by rw [wa 68 (by decide), aE 68 (by decide) (by decide) (by decide)]; exact X68
  unfold RATE at v5
  unfold RATN at d1
  obtain ⟨m4, rfl⟩ : ∃ m4, m3 = m4 + 1 := ⟨m3 - 1, by omega⟩
  have push4 : ((m4 + 1 : Nat) : Int) = (m4 : Int) + 1 := by omega
  rw [push4] at hm2
  have les := a3.2.1.1
  have cs0 := ns.2.1
  have trv := v3.2.2.2.1.1
  have cdv := v3.2.1.1
  refine hC m4 w' (CL ++ NL) ⟨⟨ii', by unfold tpI; rw [wv 63 (by decide) (by decide)]; exact v2, kw, (pU.kp kU38 (by show goI w' = goI U; rw [q7]; exact v4.go) : PRL (w'.setI 38 (v.i 38)))⟩, ⟨by rw [wv 19 (by decide) (by decide), v4.1, U19]; exact b1, by rw [wv 43 (by decide) (by decide), v4.2.1, cat.1 43 (by omega) (by omega) (by omega) (by omega) (by omega)]; exact b2, by rw [wv 52 (by decide) (by decide), v4.2.2.1, U52]; exact b3, by rw [q9, v4.wa, waU]; exact b4, w38⟩, ⟨by rw [g57 57 (Or.inl rfl)]; exact c1, by rw [g57 58 (Or.inr rfl)]; exact c2⟩, ⟨?_, by omega, by omega⟩, ⟨?_, ?_, ?_, fun _ => by rw [q3, fw']; omega⟩, ⟨by rw [(w21s _ (by omega)).1]; exact f1, by rw [(w21s _ (by omega)).1]; exact f2, by rw [(w21s _ (by omega)).2]; exact f3⟩, ⟨by rw [q3]; omega, ?_, ?_, fun j hj => ?_⟩, ⟨h1, by omega⟩, fun z => ?_⟩ w65' ?_ (by omega) (by omega)
  · unfold RATN
    rw [cw', q2, q3, q4, q6, q10, fw', tkw']
    have sl' : slI U = slI w + 1 := slU
    have en' : enI U = enI w := by unfold enI; rw [cat.1 24 (by omega) (by omega) (by omega) (by omega) (by omega)]
    have pe' : peI U = peI w := by unfold peI; rw [cat.1 59 (by omega) (by omega) (by omega) (by omega) (by omega)]
    unfold RATN at raU
    omega
  · rw [wav 64 (by decide) (by decide) (by decide) (by decide) (by decide), lv 64 (by omega) (by omega) (by omega) (by omega) (by omega)]; exact e1
  · rw [wav 66 (by decide) (by decide) (by decide) (by decide) (by decide), lv 66 (by omega) (by omega) (by omega) (by omega) (by omega)]; exact e2
  · unfold FC at fcU ⊢
    rw [wav 72 (by decide) (by decide) (by decide) (by decide) (by decide), v12 72 (by omega) (by omega) (by omega)]; exact fcU
  · unfold gv
    rw [(w3x id idU).2, ca' 31 (by omega) (by omega) (by omega) (by omega) (by omega)]
    exact g2
  · have e30 : gv w' 30 id = gv U 30 id := by unfold gv; rw [(w3x id idU).1]
    rw [e30]
    exact chU.of (fun j hj => by unfold gv; rw [(w35 j (mem j hj)).2])
  · have jm := mem j hj
    have e35 : gv w' 35 j = gv U 35 j := by unfold gv; rw [(w35 j jm).1]
    rw [e35]
    rcases List.mem_append.mp hj with q | q
    · obtain ⟨j1, j2, j3⟩ := g4 j q
      have e : gv U 35 j = gv w 35 j := by unfold gv; rw [cat.2.2.2.1 35 j (by omega) (by omega) j2]
      rw [e]
      exact ⟨j1, by omega, j3⟩
    · obtain ⟨j1, j2⟩ := cat.2.2.2.2.2.2.1 j q
      have e := (cat.2.2.2.2.2.2.2.1 j j1 j2).2.1
      rw [e]
      exact ⟨by omega, by omega, h2⟩
  · have z1 : ¬ 0 ≤ v.i 18 := fun q => z (by rw [wv 18 (by decide) (by decide)]; exact q)
    have zw : ¬ 0 ≤ w.i 18 := fun q => z1 (v3.1.2 (U18 q))
    exact (k1 zw).catch hI a1 a3 cat iU kU nU (v10 z1) v3 v4 v1 kw38 (wv 43 (by decide) (by decide)) (wv 56 (by decide) (by decide)) cw' (by rw [wa 21 (by decide)]; exact E21) dU gU (by omega) fUf.2 (by have := nU'.2.2.2.2.2.2.2.2.1; have := nU'.1; omega) idU (fun j hj => (g4 j hj).2.1) h2 (fun q => by rw [w68]; exact hr1 q) (fun q => by rw [w68]; exact hr2 (by rw [lv 68 (by omega) (by omega) (by omega) (by omega) (by omega)]; exact q))
  · intro q
    have := List.append_eq_nil_iff.mp q
    exact hne this.2
end
section
/-! reading: try: the tables behind its end -/
theorem RSV.g {x1 x2 x3 : Int32} {σ R : RS} (h : RSV x1 x2 x3 σ R) {k : Nat} (h1 : k ≠ 50) (h2 : k ≠ 51) (h3 : k ≠ 62) (i : Nat) : gv R k i = gv σ k i := gv_of (h.2.2.1 k h1 h2 h3) i
theorem RSV.hd {x1 x2 x3 : Int32} {σ R : RS} (h : RSV x1 x2 x3 σ R) (b : Bool) (γ : Nat) : hd R b γ = hd σ b γ := by
  cases b
  · exact h.g (k := 49) (by decide) (by decide) (by decide) γ
  · exact h.g (k := 48) (by decide) (by decide) (by decide) γ
theorem RSV.isch {x1 x2 x3 : Int32} {σ R : RS} (h : RSV x1 x2 x3 σ R) {x : Int} {M : List Nat} (hi : ISCH σ x M) : ISCH R x M := hi.of (fun y _ => ⟨by rw [h.2.2.1 21 (by decide) (by decide) (by decide)], by rw [h.2.2.1 22 (by decide) (by decide) (by decide)]⟩)
/-- what stands at 62 behind it -/
theorem RSV.c62 {x1 x2 : Int32} {σ R : RS} (h : RSV x1 x2 0 σ R) {p : Nat} (hp : (p : Int) < peI σ) : R.a 62 p = σ.a 62 p ∨ gv R 62 p = -1 ∨ 0 < waI σ ∧ gv R 62 p = gv σ 57 (waI σ - 1).toNat ∧ gv σ 60 p < gv σ 58 (waI σ - 1).toNat := by
  have m1 : (-1 : Int32).toInt = -1 := by decide
  by_cases c : σ.a 62 p = x1
  · rcases h.2.2.2.2.2.2.2 p (by rw [z_t0]; omega) hp c with q | q
    · right; left; unfold gv; rw [q.1]; exact m1
    · right; right
      refine ⟨q.2.1, ?_, q.2.2.2⟩
      unfold gv; rw [q.2.2.1]
  · exact Or.inl (h.2.2.2.2.2.1 p c)
theorem TAB.rsv {x1 x2 : Int32} {σ R : RS} (ht : TAB σ) (h : RSV x1 x2 0 σ R) (tr0 : 0 ≤ trI σ) : TAB R := by
  obtain ⟨⟨a0, b1, b2, b3, b4⟩, a1, a2, a3, a4, a5, a6, a7, a8, a9⟩ := ht
  have hi : R.i = σ.i := h.1
  have eg : ∀ (k i : Nat), k ≠ 50 → k ≠ 51 → k ≠ 62 → gv R k i = gv σ k i := fun k i p q r => h.g p q r i
  have e1 : cdI R = cdI σ := by unfold cdI; rw [hi]
  have e2 : enI R = enI σ := by unfold enI; rw [hi]
  have e3 : trI R = trI σ := by unfold trI; rw [hi]
  have e4 : caI R = caI σ := by unfold caI; rw [hi]
  have e5 : seI R = seI σ := by unfold seI; rw [hi]
  have e6 : slI R = slI σ := by unfold slI; rw [hi]
  have e7 : goI R = goI σ := by unfold goI; rw [hi]
  have e8 : deI R = deI σ := by unfold deI; rw [hi]
  have e9 : waI R = waI σ := by unfold waI; rw [hi]
  have e10 : peI R = peI σ := by unfold peI; rw [hi]
  refine ⟨⟨fun γ b hγ => ?_, DJ.of a0 b1 (by omega) (fun γ b M _ h1 _ => by rw [h.hd]; exact h.isch h1), fun p hp => ?_, fun w w' q1 q2 => ?_, fun p w q1 q2 q3 => ?_⟩, fun j hj => ?_, fun j hj => ?_, fun j hj => ?_, fun x hx => ?_, fun j hj => ?_, fun g hg => ?_, fun k hk => ?_, fun k hk => ?_, ?_⟩
  · obtain ⟨L, l1, l2⟩ := a0 γ b (by omega)
    exact ⟨L, by rw [h.hd]; exact h.isch l1, fun x hx => by have := l2 x hx; omega⟩
  · rw [e10] at hp
    rw [e3]
    rcases h.c62 hp with q | q | ⟨q1, q2, q3⟩
    · have e : gv R 62 p = gv σ 62 p := by unfold gv; rw [q]
      rw [e]; exact b2 p hp
    · omega
    · have ew : ((waI σ - 1).toNat : Int) = waI σ - 1 := Int.toNat_of_nonneg (by omega)
      have := (a8 (waI σ - 1).toNat (by omega)).2.1
      omega
  · rw [e9] at q2; rw [eg 57 _ (by decide) (by decide) (by decide), eg 57 _ (by decide) (by decide) (by decide)]; exact b3 w w' q1 q2
  · rw [e10] at q1
    rw [e9] at q2
    rw [eg 57 _ (by decide) (by decide) (by decide)] at q3
    rw [eg 60 _ (by decide) (by decide) (by decide), eg 58 _ (by decide) (by decide) (by decide)]
    rcases h.c62 q1 with y | y | ⟨y1, y2, y3⟩
    · have e : gv R 62 p = gv σ 62 p := by unfold gv; rw [y]
      rw [e] at q3
      exact b4 p w q1 q2 q3
    · have := (a8 w q2).1
      omega
    · have ew : ((waI σ - 1).toNat : Int) = waI σ - 1 := Int.toNat_of_nonneg (by omega)
      have e : w = (waI σ - 1).toNat := by
        by_cases c : w = (waI σ - 1).toNat
        · exact c
        · have := b3 w (waI σ - 1).toNat (by omega) (by omega)
          omega
      rw [e]; exact y3
  · rw [e2] at hj ⊢; rw [eg 27 _ (by decide) (by decide) (by decide)]; exact a1 j hj
  · rw [e4] at hj ⊢; rw [eg 37 _ (by decide) (by decide) (by decide)]; exact a2 j hj
  · rw [e3] at hj; rw [e4, eg 30 _ (by decide) (by decide) (by decide)]; exact a3 j hj
  · rw [e5] at hx
    rw [e6, e4, eg 40 _ (by decide) (by decide) (by decide), h.2.2.1 41 (by decide) (by decide) (by decide)]
    have := a4 x hx
    refine ⟨this.1, this.2.1, ?_⟩
    rw [← this.2.2]
    constructor
    · rintro ⟨j, j1, j2⟩; exact ⟨j, j1, by rw [← j2, eg 36 _ (by decide) (by decide) (by decide)]⟩
    · rintro ⟨j, j1, j2⟩; exact ⟨j, j1, by rw [← j2, eg 36 _ (by decide) (by decide) (by decide)]⟩
  · rw [e4] at hj; rw [e6, eg 36 _ (by decide) (by decide) (by decide)]; exact a5 j hj
  · rw [e7] at hg; rw [e8, eg 47 _ (by decide) (by decide) (by decide)]; exact a6 g hg
  · rw [e10] at hk; rw [eg 60 _ (by decide) (by decide) (by decide), h.2.2.1 61 (by decide) (by decide) (by decide)]; exact a7 k hk
  · rw [e9] at hk; rw [e3, e7, eg 57 _ (by decide) (by decide) (by decide), eg 58 _ (by decide) (by decide) (by decide)]; exact a8 k hk
  · rw [hi]; exact a9
theorem KP.rsv {t : Nat} {x1 x2 : Int32} {s σ R : RS} (hk : KP t s σ) (h : RSV x1 x2 0 σ R) (hs : ∀ p : Nat, (p : Int) < peI s → ¬ s.a 62 p = x1) : KP t s R := by
  obtain ⟨⟨a1, a1'⟩, a2, a3, a4, a5, a6, a7, a8, a9, a10, a11⟩ := hk
  have hi : R.i = σ.i := h.1
  have eb : ∀ (k : Nat) (n : Int), k ≠ 50 → k ≠ 51 → k ≠ 62 → bel k n s R = bel k n s σ := fun k n p q r => by unfold bel; rw [h.2.2.1 k p q r]
  have e1 : cdI R = cdI σ := by unfold cdI; rw [hi]
  have e2 : enI R = enI σ := by unfold enI; rw [hi]
  have e3 : trI R = trI σ := by unfold trI; rw [hi]
  have e4 : caI R = caI σ := by unfold caI; rw [hi]
  have e5 : seI R = seI σ := by unfold seI; rw [hi]
  have e6 : slI R = slI σ := by unfold slI; rw [hi]
  have e7 : goI R = goI σ := by unfold goI; rw [hi]
  have e9 : waI R = waI σ := by unfold waI; rw [hi]
  have e10 : peI R = peI σ := by unfold peI; rw [hi]
  refine ⟨⟨⟨fun j hj => by rw [hi]; exact a1.1 j hj, fun k hk => (h.2.2.1 k (by omega) (by omega) (by omega)).trans (a1.2.1 k hk), by rw [h.2.1]; exact a1.2.2⟩, fun z => by rw [hi]; exact a1' z⟩, ?_, ?_, ?_, ?_, ?_, ?_, fun γ b L hγ hI hL => ?_, ?_, ?_, fun k k1 k2 => ?_⟩
  · unfold KC; rw [e1, eb _ _ (by decide) (by decide) (by decide), eb _ _ (by decide) (by decide) (by decide), eb _ _ (by decide) (by decide) (by decide)]; exact a2
  · unfold KE; rw [e2, eb _ _ (by decide) (by decide) (by decide), eb _ _ (by decide) (by decide) (by decide), eb _ _ (by decide) (by decide) (by decide), eb _ _ (by decide) (by decide) (by decide)]; exact a3
  · unfold KT; rw [e3, eb _ _ (by decide) (by decide) (by decide), eb _ _ (by decide) (by decide) (by decide), eb _ _ (by decide) (by decide) (by decide)]; exact a4
  · unfold KH; unfold gv; rw [e4, eb _ _ (by decide) (by decide) (by decide), eb _ _ (by decide) (by decide) (by decide), eb _ _ (by decide) (by decide) (by decide), eb _ _ (by decide) (by decide) (by decide), e6, h.2.2.1 36 (by decide) (by decide) (by decide)]; exact a5
  · unfold KS; rw [e5, e6, eb _ _ (by decide) (by decide) (by decide), eb _ _ (by decide) (by decide) (by decide)]; exact a6
  · unfold KG; rw [e7, eb _ _ (by decide) (by decide) (by decide), eb _ _ (by decide) (by decide) (by decide), h.2.2.1 46 (by decide) (by decide) (by decide)]
    exact ⟨a7.1, a7.2.1, a7.2.2.1, fun γ hγ q => h.2.2.2.1 γ (a7.2.2.2.1 γ hγ q), fun γ hγ q => h.2.2.2.2.1 γ (a7.2.2.2.2.1 γ hγ q), a7.2.2.2.2.2⟩
  · obtain ⟨L1, c1, c2⟩ := a8 γ b L hγ hI hL
    exact ⟨L1, by rw [h.hd]; exact h.isch c1, by rw [e1]; exact c2⟩
  · unfold KW; rw [e9, eb _ _ (by decide) (by decide) (by decide), eb _ _ (by decide) (by decide) (by decide)]; exact a9
  · unfold KQ
    rw [e10, eb 60 _ (by decide) (by decide) (by decide), eb 61 _ (by decide) (by decide) (by decide)]
    refine ⟨a10.1, a10.2.1, a10.2.2.1, fun p hp => ?_⟩
    have e62 := a10.2.2.2 p hp
    rw [h.2.2.2.2.2.1 p (by rw [e62]; exact hs p hp)]
    exact e62
  · rw [eb k _ (by omega) (by omega) (by omega)]; exact a11 k k1 k2
/-- what waited at the try's wall gets on where its end is passed -/
theorem ARV.rsv {x1 : Int32} {u σ R : RS} {id : Nat} (h : RSV x1 1 0 σ R) (hx : x1.toInt = (id : Int)) (tu : TAB u) (u57 : gv u 57 (waI u - 1).toNat = (id : Int)) (hw : waI u = waI σ + 1) (w0 : 0 ≤ waI σ) (hp : peI u ≤ peI σ) (p60 : bel 60 (peI u) u σ) (p61 : bel 61 (peI u) u σ) (p62 : bel 62 (peI u) u σ) (f50 : ∀ γ : Nat, (γ : Int) < goI u → u.a 50 γ = 1 → σ.a 50 γ = 1) (f51 : ∀ γ : Nat, (γ : Int) < goI u → u.a 51 γ = 1 → σ.a 51 γ = 1) {γ : Nat} {b : Bool} (hγ : (γ : Int) < goI u) (ha : ARV u γ b) : ARV R γ b := by
  have eR : waI R = waI σ := by unfold waI; rw [h.1]
  have eP : peI R = peI σ := by unfold peI; rw [h.1]
  rcases ha with q | ⟨p, q1, q2, q3, q4, q5⟩
  · left
    cases b
    · exact h.2.2.2.2.1 γ (f51 γ hγ q)
    · exact h.2.2.2.1 γ (f50 γ hγ q)
  · have e62 : σ.a 62 p = x1 := Int32.toInt_inj.mp (by
      rw [hx, p62 p q1]
      have : gv u 62 p = (id : Int) := q5.trans u57
      exact this)
    have e60 : gv σ 60 p = (γ : Int) := by unfold gv at *; rw [p60 p q1]; exact q2
    have e61 : σ.a 61 p = b01 b := by rw [p61 p q1]; exact q3
    rcases h.2.2.2.2.2.2.2 p (by rw [z_t0]; omega) (by omega) e62 with y | y
    · left
      have := y.2 rfl
      rw [e60, Int.toNat_natCast, e61] at this
      cases b
      · rw [if_pos (show b01 false = 0 from rfl)] at this; exact this
      · rw [if_neg (show ¬ b01 true = 0 by decide)] at this; exact this
    · right
      refine ⟨p, by omega, ?_, ?_, by omega, ?_⟩
      · rw [h.g (by decide) (by decide) (by decide)]; exact e60
      · rw [h.2.2.1 61 (by decide) (by decide) (by decide)]; exact e61
      · rw [h.g (k := 57) (by decide) (by decide) (by decide), eR]
        unfold gv
        rw [y.2.2.1]
/-- what does not wait there stays -/
theorem ARV.rsv0 {x1 x2 : Int32} {σ R : RS} (h : RSV x1 x2 0 σ R) (hn : 0 < waI σ → ¬ σ.a 57 (waI σ - 1).toNat = x1) {γ : Nat} {b : Bool} (ha : ARV σ γ b) : ARV R γ b := by
  have eR : waI R = waI σ := by unfold waI; rw [h.1]
  have eP : peI R = peI σ := by unfold peI; rw [h.1]
  rcases ha with q | ⟨p, q1, q2, q3, q4, q5⟩
  · left
    cases b
    · exact h.2.2.2.2.1 γ q
    · exact h.2.2.2.1 γ q
  · right
    have e : σ.a 62 p = σ.a 57 (waI σ - 1).toNat := Int32.toInt_inj.mp q5
    have e62 : R.a 62 p = σ.a 62 p := h.2.2.2.2.2.1 p (by rw [e]; exact hn q4)
    refine ⟨p, by omega, ?_, ?_, by omega, ?_⟩
    · rw [h.g (by decide) (by decide) (by decide)]; exact q2
    · rw [h.2.2.1 61 (by decide) (by decide) (by decide)]; exact q3
    · rw [h.g (k := 57) (by decide) (by decide) (by decide), eR]
      unfold gv at q5 ⊢
      rw [e62]; exact q5
end
section
/-! reading: try: its end -/
theorem TAB.s32 {X V : RS} (h : TAB X) (hi : V.i = X.i) (ha : ∀ k : Nat, k ≠ 32 → V.a k = X.a k) : TAB V := by
  obtain ⟨⟨a0, b1, b2, b3, b4⟩, a1, a2, a3, a4, a5, a6, a7, a8, a9⟩ := h
  have eg : ∀ (k i : Nat), k ≠ 32 → gv V k i = gv X k i := fun k i e => by unfold gv; rw [ha k e]
  have e1 : cdI V = cdI X := by unfold cdI; rw [hi]
  have e2 : enI V = enI X := by unfold enI; rw [hi]
  have e3 : trI V = trI X := by unfold trI; rw [hi]
  have e4 : caI V = caI X := by unfold caI; rw [hi]
  have e5 : seI V = seI X := by unfold seI; rw [hi]
  have e6 : slI V = slI X := by unfold slI; rw [hi]
  have e7 : goI V = goI X := by unfold goI; rw [hi]
  have e8 : deI V = deI X := by unfold deI; rw [hi]
  have e9 : waI V = waI X := by unfold waI; rw [hi]
  have e10 : peI V = peI X := by unfold peI; rw [hi]
  have eh : ∀ (b : Bool) (γ : Nat), hd V b γ = hd X b γ := fun b γ => eg _ _ (by rcases bk_cases b with e | e <;> rw [e] <;> decide)
  have is : ∀ (y : Int) (L : List Nat), ISCH X y L → ISCH V y L := fun y L hI => hI.of (fun x _ => ⟨by rw [ha 21 (by decide)], by rw [ha 22 (by decide)]⟩)
  refine ⟨⟨fun γ b hγ => ?_, DJ.of a0 b1 (by omega) (fun γ b L _ h1 _ => by rw [eh]; exact is _ _ h1), fun p hp => ?_, fun w w' q1 q2 => ?_, fun p w q1 q2 q3 => ?_⟩, fun j hj => ?_, fun j hj => ?_, fun j hj => ?_, fun x hx => ?_, fun j hj => ?_, fun g hg => ?_, fun k hk => ?_, fun k hk => ?_, ?_⟩
  · obtain ⟨L, l1, l2⟩ := a0 γ b (by omega)
    exact ⟨L, by rw [eh]; exact is _ _ l1, fun x hx => by have := l2 x hx; omega⟩
  · rw [e10] at hp; rw [e3, eg 62 p (by decide)]; exact b2 p hp
  · rw [e9] at q2; rw [eg 57 _ (by decide), eg 57 _ (by decide)]; exact b3 w w' q1 q2
  · rw [e10] at q1; rw [e9] at q2; rw [eg 62 _ (by decide), eg 57 _ (by decide)] at q3; rw [eg 60 _ (by decide), eg 58 _ (by decide)]; exact b4 p w q1 q2 q3
  · rw [e2] at hj ⊢; rw [eg 27 _ (by decide)]; exact a1 j hj
  · rw [e4] at hj ⊢; rw [eg 37 _ (by decide)]; exact a2 j hj
  · rw [e3] at hj; rw [e4, eg 30 _ (by decide)]; exact a3 j hj
  · rw [e5] at hx
    rw [e6, e4, eg 40 _ (by decide), ha 41 (by decide)]
    have := a4 x hx
    refine ⟨this.1, this.2.1, ?_⟩
    rw [← this.2.2]
    constructor
    · rintro ⟨j, j1, j2⟩; exact ⟨j, j1, by rw [← j2, eg 36 _ (by decide)]⟩
    · rintro ⟨j, j1, j2⟩; exact ⟨j, j1, by rw [← j2, eg 36 _ (by decide)]⟩
  · rw [e4] at hj; rw [e6, eg 36 _ (by decide)]; exact a5 j hj
  · rw [e7] at hg; rw [e8, eg 47 _ (by decide)]; exact a6 g hg
  · rw [e10] at hk; rw [eg 60 _ (by decide), ha 61 (by decide)]; exact a7 k hk
  · rw [e9] at hk; rw [e3, e7, eg 57 _ (by decide), eg 58 _ (by decide)]; exact a8 k hk
  · rw [hi]; exact a9
theorem KP.s32 {t : Nat} {s X V : RS} (h : KP t s X) (hi : V.i = X.i) (hb : V.b = X.b) (ha : ∀ k : Nat, k ≠ 32 → V.a k = X.a k) (h32 : ∀ j : Nat, (j : Int) < trI s → V.a 32 j = X.a 32 j) : KP t s V := by
  obtain ⟨⟨a1, a1'⟩, a2, a3, a4, a5, a6, a7, a8, a9, a10, a11⟩ := h
  have eb : ∀ (k : Nat) (m : Int), k ≠ 32 → bel k m s V = bel k m s X := fun k m e => by unfold bel; rw [ha k e]
  have e1 : cdI V = cdI X := by unfold cdI; rw [hi]
  have e2 : enI V = enI X := by unfold enI; rw [hi]
  have e3 : trI V = trI X := by unfold trI; rw [hi]
  have e4 : caI V = caI X := by unfold caI; rw [hi]
  have e5 : seI V = seI X := by unfold seI; rw [hi]
  have e6 : slI V = slI X := by unfold slI; rw [hi]
  have e7 : goI V = goI X := by unfold goI; rw [hi]
  have e9 : waI V = waI X := by unfold waI; rw [hi]
  have e10 : peI V = peI X := by unfold peI; rw [hi]
  have eh : ∀ (b : Bool) (γ : Nat), hd V b γ = hd X b γ := fun b γ => by
    unfold hd gv
    rw [ha _ (by rcases bk_cases b with e | e <;> rw [e] <;> decide)]
  refine ⟨⟨⟨fun j hj => by rw [hi]; exact a1.1 j hj, fun k hk => (ha k (by omega)).trans (a1.2.1 k hk), by rw [hb]; exact a1.2.2⟩, fun z => by rw [hi]; exact a1' z⟩, ?_, ?_, ?_, ?_, ?_, ?_, fun γ b L hγ hI hL => ?_, ?_, ?_, fun k k1 k2 => ?_⟩
  · unfold KC; rw [e1, eb _ _ (by decide), eb _ _ (by decide), eb _ _ (by decide)]; exact a2
  · unfold KE; rw [e2, eb _ _ (by decide), eb _ _ (by decide), eb _ _ (by decide), eb _ _ (by decide)]; exact a3
  · unfold KT; rw [e3, eb 30 _ (by decide), eb 31 _ (by decide)]; exact ⟨a4.1, a4.2.1, a4.2.2.1, fun j hj => (h32 j hj).trans (a4.2.2.2 j hj)⟩
  · unfold KH; unfold gv; rw [e4, eb _ _ (by decide), eb _ _ (by decide), eb _ _ (by decide), eb _ _ (by decide), e6, ha 36 (by decide)]; exact a5
  · unfold KS; rw [e5, e6, eb _ _ (by decide), eb _ _ (by decide)]; exact a6
  · unfold KG; rw [e7, eb _ _ (by decide), eb _ _ (by decide), ha 50 (by decide), ha 51 (by decide), ha 46 (by decide)]; exact a7
  · obtain ⟨L1, c1, c2⟩ := a8 γ b L hγ hI hL
    refine ⟨L1, ?_, by rw [e1]; exact c2⟩
    rw [eh]
    exact c1.of (fun x _ => ⟨by rw [ha 21 (by decide)], by rw [ha 22 (by decide)]⟩)
  · unfold KW; rw [e9, eb _ _ (by decide), eb _ _ (by decide)]; exact a9
  · unfold KQ; rw [e10, eb _ _ (by decide), eb _ _ (by decide), eb _ _ (by decide)]; exact a10
  · rw [eb k _ (by omega)]; exact a11 k k1 k2
/-- endTry: what comes out of it -/
theorem TREND {N : Nat} (hN : 1000 ≤ N) {m : Nat} {s Y : RS} {t id : Nat} {P : RS → Prop} {x1 x2 : Int32} (hI : INV s) (h9 : t < 998) (hx2 : x2 = 0 ∨ x2 = 1) (ibx : ib x1 1000) (nx : x1.toNatClampNeg = t) (lY : LXI Y) (Y15 : Y.i 15 = 0) (tY : TAB Y) (tp : tpI Y = t) (kY : KP t s Y) (Y19 : Y.i 19 = s.i 19) (Y43 : Y.i 43 = s.i 43) (Y52 : Y.i 52 = s.i 52 + 1) (Y56 : Y.i 56 = s.i 56) (Y38 : Y.i 38 = s.i 38) (ra : RATE s Y) (fY : fr s ≤ fr Y) (tkY : tkI s ≤ tkI Y) (Y66 : (Y.a 66 t).toInt = (id : Int)) (hid : (id : Int) = trI s) (idY : (id : Int) < trI Y) (hC : ∀ (u : RS), PS t s u → fr Y ≤ fr u → ok (f_X12_parse_10 N m u) P) (hT : ∀ (X R : RS) (x : Int32), X.i 20 = Y.i 20 → (∀ j : Nat, j ≠ 52 → X.i j = Y.i j) → X.b = Y.b → (∀ k : Nat, k ≠ 32 → X.a k = Y.a k) → (∀ j : Nat, j ≠ id → X.a 32 j = Y.a 32 j) → X.a 32 id = Y.i 20 → TAB X → KP t s X → RSV (Y.a 66 t) x2 0 X R → TAB R → KP t s R → (x = 0 ∨ x = 1) → (x = 1 ↔ x2 = 1 ∧ Y.a 68 t = 1) → ¬ 0 ≤ Y.i 18 → TS s (R.setI 75 x)) : ok ((f_X12_endTry N Y x1 x2).bind fun p => f_X12_parse_10 N m p) P := by
  have ns := hI.2.2.2.2
  have hop := hI.op
  have fs := hI.1.f0
  have fYf := lY.f0
  have id2 : id < 200 := by have := ns.2.2.2.1; omega
  unfold f_X12_endTry
  rw [if_pos ibx, nx, if_pos (show ib (Y.a 66 t) 200 from ⟨by omega, by omega⟩), k_nat Y66]
  obtain ⟨Z, hZ⟩ : ∃ Z, Z = RS.setI Y 52 ((Y.i 52) - 1) := ⟨_, rfl⟩
  have zi : ∀ j : Nat, j ≠ 52 → Z.i j = Y.i j := fun j hj => by rw [hZ]; exact if_neg hj
  have Z52 : Z.i 52 = s.i 52 := by
    have e : Z.i 52 = Y.i 52 - 1 := by rw [hZ]; rfl
    rw [e, Y52, Int32.add_sub_cancel]
  have za : Z.a = Y.a := by rw [hZ]; rfl
  have zb : Z.b = Y.b := by rw [hZ]; rfl
  have tbZ : TBL Y Z := by rw [hZ]; exact TBL.i52 Y _
  have kZ : KP t s Z := by rw [hZ]; exact kY.i52 _
  rw [← hZ]
  clear hZ
  have deZ : deI Z = deI s := by unfold deI; rw [Z52]
  have goY : goI Y = goI s := by unfold goI; rw [Y43]
  have tZ : TAB Z := tY.tbl tbZ (fun γ hγ => by
    have q := (hI.2.2.2.1.2.2.2.2.2.2.1 γ (by omega)).2
    have kg := kY.2.2.2.2.2.2.1
    have e : gv Y 47 γ = gv s 47 γ := by unfold gv; rw [kg.2.2.1 γ (by omega)]
    omega) (by rw [zi 75 (by decide)]; exact tY.2.2.2.2.2.2.2.2.2)
  obtain ⟨X, hX⟩ : ∃ X, X = RS.setA Z 32 id (Y.i 20) := ⟨_, rfl⟩
  have xi : X.i = Z.i := by rw [hX]; rfl
  have xb : X.b = Z.b := by rw [hX]; rfl
  have xa : ∀ k : Nat, k ≠ 32 → X.a k = Z.a k := fun k hk => by rw [hX]; exact setA_nk hk
  have x32 : ∀ j : Nat, j ≠ id → X.a 32 j = Z.a 32 j := fun j hj => by rw [hX]; exact setA_ne hj
  have x32i : X.a 32 id = Y.i 20 := by rw [hX]; exact setA_at
  rw [← hX]
  clear hX
  have tX : TAB X := tZ.s32 xi xa
  have kX : KP t s X := kZ.s32 xi xb xa (fun j hj => x32 j (by omega))
  have xiY : ∀ j : Nat, j ≠ 52 → X.i j = Y.i j := fun j hj => by rw [xi]; exact zi j hj
  have peX : peI X = peI Y := by unfold peI; rw [xiY 59 (by decide)]
  have waX : waI X = waI s := by unfold waI; rw [xiY 56 (by decide), Y56]
  have ra' := ra
  unfold RATE at ra'
  have kpe := kY.2.2.2.2.2.2.2.2.2.1.1
  obtain ⟨R, eR, hR⟩ := p_rs hN (σ := X) (x1 := Y.a 66 t) hx2 ⟨by have := ns.2.2.2.2.2.2.2.2.2.2.1; omega, by have := ns.2.2.2.2.2.2.2.2.2.2.1; omega⟩ ⟨by have := ns.2.2.2.2.2.2.2.2.2.1; omega, by have := ns.2.2.2.2.2.2.2.2.2.1; omega⟩ (fun p hp => by have := tX.2.2.2.2.2.2.2.1 p hp; omega)
  rw [eR]
  clear eR
  have trX : trI X = trI Y := by unfold trI; rw [xiY 29 (by decide)]
  have tR : TAB R := tX.rsv hR (by omega)
  have kR : KP t s R := kX.rsv hR (fun p hp q => by
    have h1 := hI.2.2.2.1.1.2.2.1 p hp
    unfold gv at h1
    rw [q, Y66] at h1
    omega)
  have ri : ∀ j : Nat, j ≠ 52 → R.i j = Y.i j := fun j hj => by rw [hR.1]; exact xiY j hj
  have R52 : R.i 52 = s.i 52 := by rw [hR.1, xi]; exact Z52
  have R68 : R.a 68 t = Y.a 68 t := by rw [hR.2.2.1 68 (by decide) (by decide) (by decide), xa 68 (by decide), za]
  have lR : LXI R := lY.of (ri 2 (by decide)) (ri 10 (by decide)) (ri 11 (by decide)) (ri 12 (by decide)) (ri 14 (by decide)) (by rw [hR.2.1, xb, zb])
  have sm : SAME s R := ⟨(ri 19 (by decide)).trans Y19, (ri 43 (by decide)).trans Y43, R52, (ri 56 (by decide)).trans Y56⟩
  have R38 : R.i 38 = s.i 38 := (ri 38 (by decide)).trans Y38
  have sn : SNW s R := SNW.eq R38 kR.2.2.2.2.2.1.2.1
  have fR : fr R = fr Y := by unfold fr; rw [ri 11 (by decide)]
  have tkR : tkI R = tkI Y := by unfold tkI; rw [ri 17 (by decide)]
  have rt : RATE s R := by
    have h1 : cdI R = cdI Y := by unfold cdI; rw [ri 20 (by decide)]
    have h2 : enI R = enI Y := by unfold enI; rw [ri 24 (by decide)]
    have h3 : trI R = trI Y := by unfold trI; rw [ri 29 (by decide)]
    have h4 : caI R = caI Y := by unfold caI; rw [ri 33 (by decide)]
    have h5 : slI R = slI Y := by unfold slI; rw [ri 42 (by decide)]
    have h6 : peI R = peI Y := by unfold peI; rw [ri 59 (by decide)]
    unfold RATE at ra ⊢
    rw [h1, h2, h3, h4, h5, h6, fR, tkR]
    exact ra
  have iR : INV R := hI.mkS kR lR ((ri 15 (by decide)).trans Y15) tR sm sn rt (by omega) (by omega)
  have fin : ∀ x : Int32, (x = 0 ∨ x = 1) → (x = 1 ↔ x2 = 1 ∧ Y.a 68 t = 1) → ok (((f_X12_over N R x).bind fun p => some p).bind fun p => f_X12_parse_10 N m p) P := fun x hx hx' => IF3 (q := R) h9 hx (fun u hu hf => hC u hu (by omega)) iR (by unfold tpI; rw [ri 63 (by decide)]; exact tp) kR sm sn rt (by omega) (by omega) (fun z => hT X R x (xiY 20 (by decide)) xiY (xb.trans zb) (fun k hk => by rw [xa k hk, za]) (fun j hj => by rw [x32 j hj, za]) x32i tX kX hR tR kR hx hx' (fun q => z (by rw [ri 18 (by decide)]; exact q)))
  show ok ((if x2 = 0 then (f_X12_over N R 0).bind fun p6 => some p6 else (if (R.a 68 t) = 1 then (f_X12_over N R 1).bind fun p11 => some p11 else (f_X12_over N R 0).bind fun p9 => some p9) : Option RS).bind fun p => f_X12_parse_10 N m p) P
  by_cases c : x2 = 0
  · rw [if_pos c]
    exact fin 0 (Or.inl rfl) ⟨fun q => absurd q (by decide), fun q => by rw [c] at q; exact absurd q.1 (by decide)⟩
  rw [if_neg c]
  have x21 : x2 = 1 := hx2.resolve_left c
  by_cases c8 : R.a 68 t = 1
  · rw [if_pos c8]
    exact fin 1 (Or.inr rfl) ⟨fun _ => ⟨x21, R68.symm.trans c8⟩, fun _ => rfl⟩
  · rw [if_neg c8]
    exact fin 0 (Or.inl rfl) ⟨fun q => absurd q (by decide), fun q => absurd (R68.trans q.2) c8⟩
end
section
/-! reading: try: an end without a finally -/
theorem TAB.wd {X V : RS} (h : TAB X) (hi : ∀ j : Nat, j ≠ 56 → V.i j = X.i j) (ha : ∀ k : Nat, k ≠ 32 → V.a k = X.a k) (e9 : waI V ≤ waI X) : TAB V := by
  obtain ⟨⟨a0, b1, b2, b3, b4⟩, a1, a2, a3, a4, a5, a6, a7, a8, a9⟩ := h
  have eg : ∀ (k i : Nat), k ≠ 32 → gv V k i = gv X k i := fun k i e => by unfold gv; rw [ha k e]
  have e1 : cdI V = cdI X := by unfold cdI; rw [hi 20 (by decide)]
  have e2 : enI V = enI X := by unfold enI; rw [hi 24 (by decide)]
  have e3 : trI V = trI X := by unfold trI; rw [hi 29 (by decide)]
  have e4 : caI V = caI X := by unfold caI; rw [hi 33 (by decide)]
  have e5 : seI V = seI X := by unfold seI; rw [hi 38 (by decide)]
  have e6 : slI V = slI X := by unfold slI; rw [hi 42 (by decide)]
  have e7 : goI V = goI X := by unfold goI; rw [hi 43 (by decide)]
  have e8 : deI V = deI X := by unfold deI; rw [hi 52 (by decide)]
  have e10 : peI V = peI X := by unfold peI; rw [hi 59 (by decide)]
  have eh : ∀ (b : Bool) (γ : Nat), hd V b γ = hd X b γ := fun b γ => eg _ _ (by rcases bk_cases b with e | e <;> rw [e] <;> decide)
  have is : ∀ (y : Int) (L : List Nat), ISCH X y L → ISCH V y L := fun y L hI => hI.of (fun x _ => ⟨by rw [ha 21 (by decide)], by rw [ha 22 (by decide)]⟩)
  refine ⟨⟨fun γ b hγ => ?_, DJ.of a0 b1 (by omega) (fun γ b L _ h1 _ => by rw [eh]; exact is _ _ h1), fun p hp => ?_, fun w w' q1 q2 => ?_, fun p w q1 q2 q3 => ?_⟩, fun j hj => ?_, fun j hj => ?_, fun j hj => ?_, fun x hx => ?_, fun j hj => ?_, fun g hg => ?_, fun k hk => ?_, fun k hk => ?_, ?_⟩
  · obtain ⟨L, l1, l2⟩ := a0 γ b (by omega)
    exact ⟨L, by rw [eh]; exact is _ _ l1, fun x hx => by have := l2 x hx; omega⟩
  · rw [e10] at hp; rw [e3, eg 62 p (by decide)]; exact b2 p hp
  · have q2 : _ := (show (w' : Int) < waI X by omega); rw [eg 57 _ (by decide), eg 57 _ (by decide)]; exact b3 w w' q1 q2
  · rw [e10] at q1; have q2 : _ := (show (w : Int) < waI X by omega); rw [eg 62 _ (by decide), eg 57 _ (by decide)] at q3; rw [eg 60 _ (by decide), eg 58 _ (by decide)]; exact b4 p w q1 q2 q3
  · rw [e2] at hj ⊢; rw [eg 27 _ (by decide)]; exact a1 j hj
  · rw [e4] at hj ⊢; rw [eg 37 _ (by decide)]; exact a2 j hj
  · rw [e3] at hj; rw [e4, eg 30 _ (by decide)]; exact a3 j hj
  · rw [e5] at hx
    rw [e6, e4, eg 40 _ (by decide), ha 41 (by decide)]
    have := a4 x hx
    refine ⟨this.1, this.2.1, ?_⟩
    rw [← this.2.2]
    constructor
    · rintro ⟨j, j1, j2⟩; exact ⟨j, j1, by rw [← j2, eg 36 _ (by decide)]⟩
    · rintro ⟨j, j1, j2⟩; exact ⟨j, j1, by rw [← j2, eg 36 _ (by decide)]⟩
  · rw [e4] at hj; rw [e6, eg 36 _ (by decide)]; exact a5 j hj
  · rw [e7] at hg; rw [e8, eg 47 _ (by decide)]; exact a6 g hg
  · rw [e10] at hk; rw [eg 60 _ (by decide), ha 61 (by decide)]; exact a7 k hk
  · have hk : _ := (show (k : Int) < waI X by omega); rw [e3, e7, eg 57 _ (by decide), eg 58 _ (by decide)]; exact a8 k hk
  · rw [hi 75 (by decide)]; exact a9
theorem KP.wd {t : Nat} {s X V : RS} (h : KP t s X) (hi : ∀ j : Nat, j ≠ 56 → V.i j = X.i j) (hb : V.b = X.b) (ha : V.a = X.a) (e9 : waI s ≤ waI V) : KP t s V := by
  obtain ⟨⟨a1, a1'⟩, a2, a3, a4, a5, a6, a7, a8, a9, a10, a11⟩ := h
  have eb : ∀ (k : Nat) (m : Int), k ≠ 32 ∨ True → bel k m s V = bel k m s X := fun k m _ => by unfold bel; rw [ha]
  have e1 : cdI V = cdI X := by unfold cdI; rw [hi 20 (by decide)]
  have e2 : enI V = enI X := by unfold enI; rw [hi 24 (by decide)]
  have e3 : trI V = trI X := by unfold trI; rw [hi 29 (by decide)]
  have e4 : caI V = caI X := by unfold caI; rw [hi 33 (by decide)]
  have e5 : seI V = seI X := by unfold seI; rw [hi 38 (by decide)]
  have e6 : slI V = slI X := by unfold slI; rw [hi 42 (by decide)]
  have e7 : goI V = goI X := by unfold goI; rw [hi 43 (by decide)]
  have e10 : peI V = peI X := by unfold peI; rw [hi 59 (by decide)]
  have eh : ∀ (b : Bool) (γ : Nat), hd V b γ = hd X b γ := fun b γ => by
    unfold hd gv
    rw [ha]
  refine ⟨⟨⟨fun j hj => by rw [hi j (by omega)]; exact a1.1 j hj, fun k hk => by rw [ha]; exact a1.2.1 k hk, by rw [hb]; exact a1.2.2⟩, fun z => by rw [hi 18 (by decide)]; exact a1' z⟩, ?_, ?_, ?_, ?_, ?_, ?_, fun γ b L hγ hI hL => ?_, ?_, ?_, fun k k1 k2 => ?_⟩
  · unfold KC; rw [e1, eb _ _ (Or.inr trivial), eb _ _ (Or.inr trivial), eb _ _ (Or.inr trivial)]; exact a2
  · unfold KE; rw [e2, eb _ _ (Or.inr trivial), eb _ _ (Or.inr trivial), eb _ _ (Or.inr trivial), eb _ _ (Or.inr trivial)]; exact a3
  · unfold KT; rw [e3, eb 30 _ (Or.inr trivial), eb 31 _ (Or.inr trivial)]; exact ⟨a4.1, a4.2.1, a4.2.2.1, fun j hj => (by rw [ha] : V.a 32 j = X.a 32 j).trans (a4.2.2.2 j hj)⟩
  · unfold KH; unfold gv; rw [e4, eb _ _ (Or.inr trivial), eb _ _ (Or.inr trivial), eb _ _ (Or.inr trivial), eb _ _ (Or.inr trivial), e6, ha]; exact a5
  · unfold KS; rw [e5, e6, eb _ _ (Or.inr trivial), eb _ _ (Or.inr trivial)]; exact a6
  · unfold KG; rw [e7, eb _ _ (Or.inr trivial), eb _ _ (Or.inr trivial), ha]; exact a7
  · obtain ⟨L1, c1, c2⟩ := a8 γ b L hγ hI hL
    refine ⟨L1, ?_, by rw [e1]; exact c2⟩
    rw [eh]
    exact c1.of (fun x _ => ⟨by rw [ha], by rw [ha]⟩)
  · unfold KW; rw [eb 57 _ (Or.inr trivial), eb 58 _ (Or.inr trivial)]; exact ⟨e9, a9.2.1, a9.2.2⟩
  · unfold KQ; rw [e10, eb _ _ (Or.inr trivial), eb _ _ (Or.inr trivial), eb _ _ (Or.inr trivial)]; exact a10
  · rw [eb k _ (Or.inr trivial)]; exact a11 k k1 k2
theorem TRN {N : Nat} (hN : 1000 ≤ N) {m : Nat} {s w : RS} {t id : Nat} {CL : List Nat} {e : Int} {P : RS → Prop} {x1 : Int32} (hI : INV s) (h9 : t < 996) (hid : (id : Int) = trI s) (hw : TI t s id CL e w) (hno : w.a 67 t = 1 ∨ CL ≠ []) (ibx : ib x1 1000) (nx : x1.toNatClampNeg = t) (hC : ∀ (u : RS), PS t s u → fr w ≤ fr u → ok (f_X12_parse_10 N m u) P) : ok ((f_X12_trying_417 N w x1).bind fun p => f_X12_parse_10 N m p) P := by
  obtain ⟨⟨a1, a2, a3, a4⟩, ⟨b1, b2, b3, b4, b5⟩, ⟨c1, c2⟩, ⟨d1, d2, d3⟩, ⟨e1, e2, e3, e4⟩, ⟨f1, f2, f3⟩, ⟨g1, g2, g3, g4⟩, ⟨h1, h2⟩, k1⟩ := (show TI t s id CL e w from hw)
  have ns := hI.2.2.2.2
  have fw := a1.1.f0
  have hop := hI.op
  have ws0 := ns.2.2.2.2.2.2.2.2.2.1
  have i1 : (1 : Int32).toInt = 1 := by decide
  unfold f_X12_trying_417
  rw [bind_some]
  obtain ⟨Y, hY⟩ : ∃ Y, Y = RS.setI w 56 ((w.i 56) - 1) := ⟨_, rfl⟩
  have yi : ∀ j : Nat, j ≠ 56 → Y.i j = w.i j := fun j hj => by rw [hY]; exact if_neg hj
  have ya : Y.a = w.a := by rw [hY]; rfl
  have yb : Y.b = w.b := by rw [hY]; rfl
  have Y56 : Y.i 56 = s.i 56 := by
    have e : Y.i 56 = w.i 56 - 1 := by rw [hY]; rfl
    have h56 : (w.i 56).toInt = (s.i 56).toInt + 1 := b4
    have hs : (s.i 56).toInt = waI s := rfl
    refine Int32.toInt_inj.mp ?_
    rw [e, toInt_sub] <;> rw [i1] <;> omega
  rw [← hY]
  clear hY
  have waY : waI Y = waI s := by unfold waI; rw [Y56]
  have tY : TAB Y := a1.2.2.2.1.wd yi (fun k _ => by rw [ya]) (by omega)
  have kY : KP t s Y := a3.wd yi yb ya (by omega)
  have lY : LXI Y := a1.1.of (yi 2 (by decide)) (yi 10 (by decide)) (yi 11 (by decide)) (yi 12 (by decide)) (yi 14 (by decide)) (by rw [yb])
  have fY : fr Y = fr w := by unfold fr; rw [yi 11 (by decide)]
  have tkY : tkI Y = tkI w := by unfold tkI; rw [yi 17 (by decide)]
  have trY : trI Y = trI w := by unfold trI; rw [yi 29 (by decide)]
  have cdY : cdI Y = cdI w := by unfold cdI; rw [yi 20 (by decide)]
  have ra : RATE s Y := by
    have q2 : enI Y = enI w := by unfold enI; rw [yi 24 (by decide)]
    have q4 : caI Y = caI w := by unfold caI; rw [yi 33 (by decide)]
    have q5 : slI Y = slI w := by unfold slI; rw [yi 42 (by decide)]
    have q6 : peI Y = peI w := by unfold peI; rw [yi 59 (by decide)]
    have := e4 hno
    unfold RATN at d1
    unfold RATE
    rw [cdY, q2, trY, q4, q5, q6, fY, tkY]
    omega
  refine TREND hN hI (by omega) (Or.inr rfl) ibx nx lY ((yi 15 (by decide)).trans a1.2.2.1) tY (by unfold tpI; rw [yi 63 (by decide)]; exact a2) kY ((yi 19 (by decide)).trans b1) ((yi 43 (by decide)).trans b2) ((yi 52 (by decide)).trans b3) Y56 ((yi 38 (by decide)).trans b5) ra (by omega) (by omega) (by rw [ya]; exact e2) hid (by omega) (fun u hu hf => hC u hu (by omega)) (fun X R x x20 xi xb xa x32 x32i tX kX hR tR kR hx hx' z => ?_)
  have zw : ¬ 0 ≤ w.i 18 := fun q => z (by rw [yi 18 (by decide)]; exact q)
  have Ri : ∀ j : Nat, j ≠ 52 → j ≠ 56 → R.i j = w.i j := fun j q1 q2 => by rw [hR.1, xi j q1, yi j q2]
  have Ra : ∀ k : Nat, k ≠ 32 → k ≠ 50 → k ≠ 51 → k ≠ 62 → R.a k = w.a k := fun k q1 q2 q3 q4 => by rw [hR.2.2.1 k q2 q3 q4, xa k q1, ya]
  have R32 : ∀ j : Nat, j ≠ id → R.a 32 j = w.a 32 j := fun j hj => by rw [hR.2.2.1 32 (by decide) (by decide) (by decide), x32 j hj, ya]
  have R32i : R.a 32 id = w.i 20 := by rw [hR.2.2.1 32 (by decide) (by decide) (by decide), x32i, yi 20 (by decide)]
  obtain ⟨W, hW⟩ : ∃ W, W = R.setI 75 x := ⟨_, rfl⟩
  have Wi : ∀ j : Nat, j ≠ 52 → j ≠ 56 → j ≠ 75 → W.i j = w.i j := fun j q1 q2 q3 => by rw [hW]; exact (if_neg q3).trans (Ri j q1 q2)
  have W75 : W.i 75 = x := by rw [hW]; rfl
  have Wa : W.a = R.a := by rw [hW]; rfl
  have kW : KP t s W := by rw [hW]; exact kR.i75 x
  have tbW : TBL R W := by rw [hW]; exact TBL.i75 R x
  rw [← hW]
  clear hW
  have W3 : ∀ k : Nat, k ≠ 32 → k ≠ 50 → k ≠ 51 → k ≠ 62 → W.a k = w.a k := fun k q1 q2 q3 q4 => by rw [Wa]; exact Ra k q1 q2 q3 q4
  have wg : ∀ k i : Nat, k ≠ 32 → k ≠ 50 → k ≠ 51 → k ≠ 62 → gv W k i = gv w k i := fun k i q1 q2 q3 q4 => gv_of (W3 k q1 q2 q3 q4) i
  have cdW : cdI W = cdI w := by unfold cdI; rw [Wi 20 (by decide) (by decide) (by decide)]
  have enW : enI W = enI w := by unfold enI; rw [Wi 24 (by decide) (by decide) (by decide)]
  have trW : trI W = trI w := by unfold trI; rw [Wi 29 (by decide) (by decide) (by decide)]
  have caW : caI W = caI w := by unfold caI; rw [Wi 33 (by decide) (by decide) (by decide)]
  have slW : slI W = slI w := by unfold slI; rw [Wi 42 (by decide) (by decide) (by decide)]
  have gW : goI W = goI w := by unfold goI; rw [Wi 43 (by decide) (by decide) (by decide)]
  have gu : goI w = goI s := by unfold goI; rw [b2]
  have hdW : ∀ (b : Bool) (γ : Nat), hd W b γ = hd w b γ := fun b γ => by
    cases b
    · exact wg 49 γ (by decide) (by decide) (by decide) (by decide)
    · exact wg 48 γ (by decide) (by decide) (by decide) (by decide)
  have isW : ∀ {y : Int} {M : List Nat}, ISCH w y M → ISCH W y M := fun hi => hi.of (fun y _ => ⟨by rw [W3 21 (by decide) (by decide) (by decide) (by decide)], by rw [W3 22 (by decide) (by decide) (by decide) (by decide)]⟩)
  have isb : ∀ {y : Int} {M : List Nat}, ISCH W y M → ISCH w y M := fun hi => hi.of (fun y _ => ⟨by rw [W3 21 (by decide) (by decide) (by decide) (by decide)], by rw [W3 22 (by decide) (by decide) (by decide) (by decide)]⟩)
  have g31 : gv W 31 id = -1 := by rw [wg 31 id (by decide) (by decide) (by decide) (by decide)]; exact g2
  have lat : LAT (ZT id CL) s w W := by
    refine ⟨⟨by omega, by omega, by omega, by rw [Wi 3 (by decide) (by decide) (by decide)]; exact Int.le_refl _, fun k _ _ => ⟨by rw [W3 21 (by decide) (by decide) (by decide) (by decide)], fun _ => ⟨by rw [W3 23 (by decide) (by decide) (by decide) (by decide)], fun _ => by rw [W3 22 (by decide) (by decide) (by decide) (by decide)]⟩⟩, fun k _ _ => ⟨by rw [W3 26 (by decide) (by decide) (by decide) (by decide)], by rw [W3 28 (by decide) (by decide) (by decide) (by decide)], fun _ => by rw [W3 27 (by decide) (by decide) (by decide) (by decide)]⟩, fun k _ _ q => ⟨by rw [W3 30 (by decide) (by decide) (by decide) (by decide)], by rw [W3 31 (by decide) (by decide) (by decide) (by decide)], by rw [Wa]; exact R32 k (fun y => q (Or.inl ⟨rfl, y⟩))⟩, fun k _ _ => ⟨by rw [W3 35 (by decide) (by decide) (by decide) (by decide)], by rw [W3 36 (by decide) (by decide) (by decide) (by decide)], fun _ => by rw [W3 37 (by decide) (by decide) (by decide) (by decide)]⟩⟩, fun k _ _ ho => ?_, by omega, by omega, fun j _ => wg 36 j (by decide) (by decide) (by decide) (by decide), fun j j1 j2 => by omega⟩
    obtain ⟨γ, b, M, y1, y2, y3⟩ := ho
    rw [hdW] at y2
    exact ⟨γ, b, M, by omega, isb y2, y3⟩
  have nsl := a1.2.2.2.2.2.2.2.2.2.2.1
  have ew : (waI w - 1).toNat = (waI s).toNat := by rw [b4]; congr 1; omega
  have peX : peI X = peI w := by unfold peI; rw [xi 59 (by decide), yi 59 (by decide)]
  have waX : waI X = waI s := by unfold waI; rw [xi 56 (by decide), Y56]
  have aX : ∀ k : Nat, k ≠ 32 → X.a k = w.a k := fun k hk => by rw [xa k hk, ya]
  refine TS.try (ps := true) (ek := false) hI (k1 zw) a3 f1 f2 f3 h1 h2 hid g1 ?_ g4 lat (by omega) gu (fun γ _ => ⟨by rw [W3 44 (by decide) (by decide) (by decide) (by decide)], by rw [W3 47 (by decide) (by decide) (by decide) (by decide)]⟩) (fun γ b k _ hs => ?_) kW (by omega) ?_ (fun hr => ⟨fun q => by omega, fun _ => ?_⟩) (fun _ γ b hγ ha => ?_) (FINP.none (by omega) (by omega) (by omega))
  · rw [wg 30 id (by decide) (by decide) (by decide) (by decide)]
    exact g3.of (fun j _ => wg 37 j (by decide) (by decide) (by decide) (by decide))
  · obtain ⟨y1, M, y2, y3⟩ := hs
    exact ⟨y1, M, by rw [hdW]; exact isW y2, y3⟩
  · unfold gv; rw [Wa, R32i]; show cdI w = cdI W; omega
  · rw [W75]
    exact hx'.mpr ⟨rfl, by rw [ya]; exact hr⟩
  · have := ARV.rsv (u := w) hR (by rw [ya]; exact e2) a1.2.2.2.1 (by rw [ew]; exact c1) (by omega) (by omega) (by omega) (fun j _ => by rw [aX 60 (by decide)]) (fun j _ => by rw [aX 61 (by decide)]) (fun j _ => by rw [aX 62 (by decide)]) (fun γ _ q => by rw [aX 50 (by decide)]; exact q) (fun γ _ q => by rw [aX 51 (by decide)]; exact q) (by omega) ha
    exact this.tbs tbW.tbs
end
section
/-! reading: try: its finally -/
theorem TAB.s31 {X V : RS} (h : TAB X) (hi : V.i = X.i) (ha : ∀ k : Nat, k ≠ 31 → V.a k = X.a k) : TAB V := by
  obtain ⟨⟨a0, b1, b2, b3, b4⟩, a1, a2, a3, a4, a5, a6, a7, a8, a9⟩ := h
  have eg : ∀ (k i : Nat), k ≠ 31 → gv V k i = gv X k i := fun k i e => by unfold gv; rw [ha k e]
  have e1 : cdI V = cdI X := by unfold cdI; rw [hi]
  have e2 : enI V = enI X := by unfold enI; rw [hi]
  have e3 : trI V = trI X := by unfold trI; rw [hi]
  have e4 : caI V = caI X := by unfold caI; rw [hi]
  have e5 : seI V = seI X := by unfold seI; rw [hi]
  have e6 : slI V = slI X := by unfold slI; rw [hi]
  have e7 : goI V = goI X := by unfold goI; rw [hi]
  have e8 : deI V = deI X := by unfold deI; rw [hi]
  have e9 : waI V = waI X := by unfold waI; rw [hi]
  have e10 : peI V = peI X := by unfold peI; rw [hi]
  have eh : ∀ (b : Bool) (γ : Nat), hd V b γ = hd X b γ := fun b γ => eg _ _ (by rcases bk_cases b with e | e <;> rw [e] <;> decide)
  have is : ∀ (y : Int) (L : List Nat), ISCH X y L → ISCH V y L := fun y L hI => hI.of (fun x _ => ⟨by rw [ha 21 (by decide)], by rw [ha 22 (by decide)]⟩)
  refine ⟨⟨fun γ b hγ => ?_, DJ.of a0 b1 (by omega) (fun γ b L _ h1 _ => by rw [eh]; exact is _ _ h1), fun p hp => ?_, fun w w' q1 q2 => ?_, fun p w q1 q2 q3 => ?_⟩, fun j hj => ?_, fun j hj => ?_, fun j hj => ?_, fun x hx => ?_, fun j hj => ?_, fun g hg => ?_, fun k hk => ?_, fun k hk => ?_, ?_⟩
  · obtain ⟨L, l1, l2⟩ := a0 γ b (by omega)
    exact ⟨L, by rw [eh]; exact is _ _ l1, fun x hx => by have := l2 x hx; omega⟩
  · rw [e10] at hp; rw [e3, eg 62 p (by decide)]; exact b2 p hp
  · rw [e9] at q2; rw [eg 57 _ (by decide), eg 57 _ (by decide)]; exact b3 w w' q1 q2
  · rw [e10] at q1; rw [e9] at q2; rw [eg 62 _ (by decide), eg 57 _ (by decide)] at q3; rw [eg 60 _ (by decide), eg 58 _ (by decide)]; exact b4 p w q1 q2 q3
  · rw [e2] at hj ⊢; rw [eg 27 _ (by decide)]; exact a1 j hj
  · rw [e4] at hj ⊢; rw [eg 37 _ (by decide)]; exact a2 j hj
  · rw [e3] at hj; rw [e4, eg 30 _ (by decide)]; exact a3 j hj
  · rw [e5] at hx
    rw [e6, e4, eg 40 _ (by decide), ha 41 (by decide)]
    have := a4 x hx
    refine ⟨this.1, this.2.1, ?_⟩
    rw [← this.2.2]
    constructor
    · rintro ⟨j, j1, j2⟩; exact ⟨j, j1, by rw [← j2, eg 36 _ (by decide)]⟩
    · rintro ⟨j, j1, j2⟩; exact ⟨j, j1, by rw [← j2, eg 36 _ (by decide)]⟩
  · rw [e4] at hj; rw [e6, eg 36 _ (by decide)]; exact a5 j hj
  · rw [e7] at hg; rw [e8, eg 47 _ (by decide)]; exact a6 g hg
  · rw [e10] at hk; rw [eg 60 _ (by decide), ha 61 (by decide)]; exact a7 k hk
  · rw [e9] at hk; rw [e3, e7, eg 57 _ (by decide), eg 58 _ (by decide)]; exact a8 k hk
  · rw [hi]; exact a9
theorem KP.s31 {t : Nat} {s X V : RS} (h : KP t s X) (hi : V.i = X.i) (hb : V.b = X.b) (ha : ∀ k : Nat, k ≠ 31 → V.a k = X.a k) (h31 : ∀ j : Nat, (j : Int) < trI s → V.a 31 j = X.a 31 j) : KP t s V := by
  obtain ⟨⟨a1, a1'⟩, a2, a3, a4, a5, a6, a7, a8, a9, a10, a11⟩ := h
  have eb : ∀ (k : Nat) (m : Int), k ≠ 31 → bel k m s V = bel k m s X := fun k m e => by unfold bel; rw [ha k e]
  have e1 : cdI V = cdI X := by unfold cdI; rw [hi]
  have e2 : enI V = enI X := by unfold enI; rw [hi]
  have e3 : trI V = trI X := by unfold trI; rw [hi]
  have e4 : caI V = caI X := by unfold caI; rw [hi]
  have e5 : seI V = seI X := by unfold seI; rw [hi]
  have e6 : slI V = slI X := by unfold slI; rw [hi]
  have e7 : goI V = goI X := by unfold goI; rw [hi]
  have e9 : waI V = waI X := by unfold waI; rw [hi]
  have e10 : peI V = peI X := by unfold peI; rw [hi]
  have eh : ∀ (b : Bool) (γ : Nat), hd V b γ = hd X b γ := fun b γ => by
    unfold hd gv
    rw [ha _ (by rcases bk_cases b with e | e <;> rw [e] <;> decide)]
  refine ⟨⟨⟨fun j hj => by rw [hi]; exact a1.1 j hj, fun k hk => (ha k (by omega)).trans (a1.2.1 k hk), by rw [hb]; exact a1.2.2⟩, fun z => by rw [hi]; exact a1' z⟩, ?_, ?_, ?_, ?_, ?_, ?_, fun γ b L hγ hI hL => ?_, ?_, ?_, fun k k1 k2 => ?_⟩
  · unfold KC; rw [e1, eb _ _ (by decide), eb _ _ (by decide), eb _ _ (by decide)]; exact a2
  · unfold KE; rw [e2, eb _ _ (by decide), eb _ _ (by decide), eb _ _ (by decide), eb _ _ (by decide)]; exact a3
  · unfold KT; rw [e3, eb 30 _ (by decide), eb 32 _ (by decide)]; exact ⟨a4.1, a4.2.1, fun j hj => (h31 j hj).trans (a4.2.2.1 j hj), a4.2.2.2⟩
  · unfold KH; unfold gv; rw [e4, eb _ _ (by decide), eb _ _ (by decide), eb _ _ (by decide), eb _ _ (by decide), e6, ha 36 (by decide)]; exact a5
  · unfold KS; rw [e5, e6, eb _ _ (by decide), eb _ _ (by decide)]; exact a6
  · unfold KG; rw [e7, eb _ _ (by decide), eb _ _ (by decide), ha 50 (by decide), ha 51 (by decide), ha 46 (by decide)]; exact a7
  · obtain ⟨L1, c1, c2⟩ := a8 γ b L hγ hI hL
    refine ⟨L1, ?_, by rw [e1]; exact c2⟩
    rw [eh]
    exact c1.of (fun x _ => ⟨by rw [ha 21 (by decide)], by rw [ha 22 (by decide)]⟩)
  · unfold KW; rw [e9, eb _ _ (by decide), eb _ _ (by decide)]; exact a9
  · unfold KQ; rw [e10, eb _ _ (by decide), eb _ _ (by decide), eb _ _ (by decide)]; exact a10
  · rw [eb k _ (by omega)]; exact a11 k k1 k2
/-- the try's row, marks and what waits may differ -/
def ENDR (id : Nat) (E W : RS) : Prop := (∀ j : Nat, j ≠ 52 → j ≠ 75 → j ≠ 63 → W.i j = E.i j) ∧ (∀ k : Nat, k ≠ 32 → k ≠ 50 → k ≠ 51 → k ≠ 62 → W.a k = E.a k) ∧ (∀ j : Nat, j ≠ id → W.a 32 j = E.a 32 j)
theorem ENDR.g {id : Nat} {E W : RS} (h : ENDR id E W) {k : Nat} (h1 : k ≠ 32) (h2 : k ≠ 50) (h3 : k ≠ 51) (h4 : k ≠ 62) (i : Nat) : gv W k i = gv E k i := gv_of (h.2.1 k h1 h2 h3 h4) i
theorem ENDR.opn {id : Nat} {E W : RS} (h : ENDR id E W) {k : Nat} (ho : OPN W k) : OPN E k := by
  obtain ⟨γ, b, M, x1, x2, x3⟩ := ho
  have e43 : goI W = goI E := by unfold goI; rw [h.1 43 (by decide) (by decide) (by decide)]
  have ehd : hd W b γ = hd E b γ := by
    cases b
    · exact h.g (k := 49) (by decide) (by decide) (by decide) (by decide) γ
    · exact h.g (k := 48) (by decide) (by decide) (by decide) (by decide) γ
  rw [ehd] at x2
  exact ⟨γ, b, M, by omega, x2.of (fun y _ => ⟨by rw [h.2.1 21 (by decide) (by decide) (by decide) (by decide)], by rw [h.2.1 22 (by decide) (by decide) (by decide) (by decide)]⟩), x3⟩
theorem LAT.endr {Z : Nat → Nat → Prop} {A B E W : RS} {id : Nat} (h : LAT Z A B E) (r : ENDR id E W) (hz : ∀ k : Nat, trI A ≤ k → (k : Int) < trI B → ¬ Z 30 k → k ≠ id) : LAT Z A B W := by
  obtain ⟨⟨a1, a2, a3, a4, a5, a6, a7, a8⟩, a9, a10, a11, a12, a13⟩ := h
  have e1 : cdI W = cdI E := by unfold cdI; rw [r.1 20 (by decide) (by decide) (by decide)]
  have e2 : enI W = enI E := by unfold enI; rw [r.1 24 (by decide) (by decide) (by decide)]
  have e3 : trI W = trI E := by unfold trI; rw [r.1 29 (by decide) (by decide) (by decide)]
  have e4 : caI W = caI E := by unfold caI; rw [r.1 33 (by decide) (by decide) (by decide)]
  have e5 : slI W = slI E := by unfold slI; rw [r.1 42 (by decide) (by decide) (by decide)]
  have ra : ∀ k : Nat, k ≠ 32 → k ≠ 50 → k ≠ 51 → k ≠ 62 → W.a k = E.a k := r.2.1
  refine ⟨⟨by omega, by omega, by omega, by rw [r.1 3 (by decide) (by decide) (by decide)]; exact a4, fun k k1 k2 => ?_, fun k k1 k2 => ?_, fun k k1 k2 z => ?_, fun k k1 k2 => ?_⟩, fun k k1 k2 z => a9 k k1 k2 (r.opn z), by omega, by omega, fun j hj => by rw [r.g (by decide) (by decide) (by decide) (by decide)]; exact a12 j hj, fun j j1 j2 => by rw [r.g (by decide) (by decide) (by decide) (by decide)]; exact a13 j j1 (by omega)⟩
  · have := a5 k k1 k2
    rw [ra 21 (by decide) (by decide) (by decide) (by decide), ra 22 (by decide) (by decide) (by decide) (by decide), ra 23 (by decide) (by decide) (by decide) (by decide)]
    exact this
  · have := a6 k k1 k2
    rw [ra 26 (by decide) (by decide) (by decide) (by decide), ra 27 (by decide) (by decide) (by decide) (by decide), ra 28 (by decide) (by decide) (by decide) (by decide)]
    exact this
  · obtain ⟨q1, q2, q3⟩ := a7 k k1 k2 z
    rw [ra 30 (by decide) (by decide) (by decide) (by decide), ra 31 (by decide) (by decide) (by decide) (by decide)]
    exact ⟨q1, q2, (r.2.2 k (hz k k1 k2 z)).trans q3⟩
  · have := a8 k k1 k2
    rw [ra 35 (by decide) (by decide) (by decide) (by decide), ra 36 (by decide) (by decide) (by decide) (by decide), ra 37 (by decide) (by decide) (by decide) (by decide)]
    exact this
end
section
/-! reading: try: a finally, run -/
theorem TRF {N b : Nat} (hN : 1000 ≤ N) (hbk : 1 ≤ b → RUNBW N (b - 1)) {m : Nat} {s w : RS} {t id : Nat} {CL : List Nat} {e : Int} {P : RS → Prop} (hI : INV s) (h9 : t < 996) (hb : 2 * (t : Int) ≤ fr s + 12 * op s + 2) (hc : 900 - fr s ≤ b) (hF : ∀ u, FS' s u → P u) (hid : (id : Int) = trI s) (hw : TI t s id CL e w) (w65 : w.a 65 t = 2) (tok : w.i 10 = 426) (hn : 36000 + 40 ≤ (m : Int) + 40 * fr w) (hC : ∀ (m' : Nat) (u : RS), PS t s u → fr w + 1 ≤ fr u → (m : Int) + 40 * fr w + 40 ≤ m' + 40 * fr u → ok (f_X12_parse_10 N m' u) P) : ok (f_X12_parse_10 N (m + 1) w) P := by
  obtain ⟨⟨a1, a2, a3, a4⟩, ⟨b1, b2, b3, b4, b5⟩, ⟨c1, c2⟩, ⟨d1, d2, d3⟩, ⟨e1, e2, e3, e4⟩, ⟨f1, f2, f3⟩, ⟨g1, g2, g3, g4⟩, ⟨h1, h2⟩, k1⟩ := (show TI t s id CL e w from hw)
  have ns := hI.2.2.2.2
  have nw := a1.2.2.2.2
  have fs := hI.1.f0
  have fw := a1.1.f0
  have hop := hI.op
  have ws0 := ns.2.2.2.2.2.2.2.2.2.1
  have cs := hI.cd
  have i1 : (1 : Int32).toInt = 1 := by decide
  have id2 : id < 200 := by have := ns.2.2.2.1; omega
  refine lp_15 a2 (by omega) a1.2.2.1 e1 ?_
  unfold f_X12_trying
  rw [if_pos (tp_ib a2 (by omega)), tp_nat a2, if_neg (by rw [w65]; decide), if_neg (by rw [w65]; decide), if_pos w65, if_neg (by rw [tok]; decide), if_pos tok]
  obtain ⟨Y, hY⟩ : ∃ Y, Y = RS.setI w 56 ((w.i 56) - 1) := ⟨_, rfl⟩
  have yi : ∀ j : Nat, j ≠ 56 → Y.i j = w.i j := fun j hj => by rw [hY]; exact if_neg hj
  have ya : Y.a = w.a := by rw [hY]; rfl
  have yb : Y.b = w.b := by rw [hY]; rfl
  have Y56 : Y.i 56 = s.i 56 := by
    have e : Y.i 56 = w.i 56 - 1 := by rw [hY]; rfl
    have h56 : (w.i 56).toInt = (s.i 56).toInt + 1 := b4
    have hs : (s.i 56).toInt = waI s := rfl
    refine Int32.toInt_inj.mp ?_
    rw [e, toInt_sub] <;> rw [i1] <;> omega
  rw [← hY]
  clear hY
  have waY : waI Y = waI s := by unfold waI; rw [Y56]
  have tY : TAB Y := a1.2.2.2.1.wd yi (fun k _ => by rw [ya]) (by omega)
  have kY : KP t s Y := a3.wd yi yb ya (by omega)
  have lY : LXI Y := a1.1.of (yi 2 (by decide)) (yi 10 (by decide)) (yi 11 (by decide)) (yi 12 (by decide)) (yi 14 (by decide)) (by rw [yb])
  have fY : fr Y = fr w := by unfold fr; rw [yi 11 (by decide)]
  have tkY : tkI Y = tkI w := by unfold tkI; rw [yi 17 (by decide)]
  obtain ⟨R, eR, l1, l2, l3, l4⟩ := p_nx hN lY
  rw [eR]
  clear eR
  obtain ⟨R15, rc⟩ := l4 ((yi 15 (by decide)).trans a1.2.2.1)
  obtain ⟨n1, n2, n3⟩ := rc (by rw [yi 10 (by decide), tok]; decide)
  have n3 := n3 (Or.inl (by rw [yi 10 (by decide), tok]; decide))
  have tkw := nw.2.2.2.2.2.2.2.2.2.2.2
  have tkR : tkI R = tkI Y + 1 := tk_add n1 ⟨by omega, by omega⟩
  have r66 : (R.a 66 t).toInt = (id : Int) := by rw [l1.1, ya]; exact e2
  show ok ((if ib (R.a 66 t) 200 then (f_X12_then N (RS.setA R 31 ((R.a 66 t).toNatClampNeg) (R.i 20)) 4 3).bind fun p65 => some p65 else none : Option RS).bind fun p => f_X12_parse_10 N m p) P
  rw [if_pos (show ib (R.a 66 t) 200 from ⟨by omega, by omega⟩), k_nat r66]
  obtain ⟨X, hX⟩ : ∃ X, X = RS.setA R 31 id (R.i 20) := ⟨_, rfl⟩
  have xi : X.i = R.i := by rw [hX]; rfl
  have xb : X.b = R.b := by rw [hX]; rfl
  have xa : ∀ k : Nat, k ≠ 31 → X.a k = R.a k := fun k hk => by rw [hX]; exact setA_nk hk
  have x31 : ∀ j : Nat, j ≠ id → X.a 31 j = R.a 31 j := fun j hj => by rw [hX]; exact setA_ne hj
  have x31i : X.a 31 id = R.i 20 := by rw [hX]; exact setA_at
  have tpX : tpI X = t := by unfold tpI; rw [xi, l1.2.2.1 63 (by omega) (by omega), yi 63 (by decide)]; exact a2
  rw [← hX, p_th 4 3 tpX (by omega)]
  clear hX
  show ok (f_X12_parse_10 N m (TH X t 4 3)) P
  have xw : ∀ j : Nat, j < 10 ∨ 18 ≤ j → j ≠ 56 → j ≠ 19 → X.i j = w.i j := fun j q1 q2 q3 => by rw [xi, l1.2.2.1 j q1 q3, yi j q2]
  have xaw : ∀ k : Nat, k ≠ 31 → X.a k = w.a k := fun k hk => by rw [xa k hk, l1.1, ya]
  have tX : TAB X := (tY.lx l1).s31 xi xa
  have kX : KP t s X := (kY.lx l1).s31 xi xb xa (fun j hj => x31 j (by omega))
  have X19 : X.i 19 = w.i 19 := by rw [xi, l2, yi 19 (by decide)]
  have X56 : X.i 56 = s.i 56 := by rw [xi, l1.2.2.1 56 (by omega) (by omega)]; exact Y56
  have fX : fr X = fr R := by unfold fr; rw [xi]
  have tkX : tkI X = tkI R := by unfold tkI; rw [xi]
  have cdX : cdI X = cdI w := by unfold cdI; rw [xw 20 (by omega) (by omega) (by omega)]
  have enX : enI X = enI w := by unfold enI; rw [xw 24 (by omega) (by omega) (by omega)]
  have trX : trI X = trI w := by unfold trI; rw [xw 29 (by omega) (by omega) (by omega)]
  have caX : caI X = caI w := by unfold caI; rw [xw 33 (by omega) (by omega) (by omega)]
  have seX : seI X = seI w := by unfold seI; rw [xw 38 (by omega) (by omega) (by omega)]
  have slX : slI X = slI w := by unfold slI; rw [xw 42 (by omega) (by omega) (by omega)]
  have goX : goI X = goI w := by unfold goI; rw [xw 43 (by omega) (by omega) (by omega)]
  have deX : deI X = deI w := by unfold deI; rw [xw 52 (by omega) (by omega) (by omega)]
  have peX : peI X = peI w := by unfold peI; rw [xw 59 (by omega) (by omega) (by omega)]
  have waX : waI X = waI s := by unfold waI; rw [X56]
  have opX : op X = op w := by unfold op; rw [X19]
  have ops : op w = op s := by unfold op; rw [b1]
  have lX : LXI X := l1.2.2.2.1.of (by rw [xi]) (by rw [xi]) (by rw [xi]) (by rw [xi]) (by rw [xi]) (by rw [xb])
  have iX : INVW X := by
    refine ⟨lX, hI.2.1.kp kX, by rw [xi]; exact R15, tX, ?_⟩
    unfold NUMW at nw ⊢
    rw [opX, cdX, enX, trX, caX, seX, slX, goX, deX, waX, peX, tkX, fX]
    omega
  have pX : PRL X := by
    have b44 : bel 44 (goI w) w X := fun j _ => by rw [xaw 44 (by decide)]
    have b46 : bel 46 (goI w) w X := fun j _ => by rw [xaw 46 (by decide)]
    refine ⟨fun γ q1 q2 q3 => ?_, fun γ q1 => a4.2 γ (q1.of goX b44 b46)⟩
    have y1 := (ACC.of goX b44 γ).mp q1
    have e : gv X 46 γ = gv w 46 γ := gv_of (xaw 46 (by decide)) γ
    rw [e] at q3
    obtain ⟨z1, z2, z3⟩ := a4.1 γ y1 (by rw [← b44 γ y1.1]; exact q2) q3
    rw [e, goX]
    exact ⟨z1, z2, by rw [b44 _ (by omega)]; exact z3⟩
  have fXf := iX.1.f0
  refine CALLBW (hbk (by omega)) iX pX tpX (by omega) (by omega) (by omega) (by omega) (fun u hu => hF u (FS'.kp kX hu)) (fun m2 v hv hm2 => ?_)
  obtain ⟨v1, v2, v3, v4, v5, v6, v7, v8, v9, v10, v11, v12⟩ := hv
  have fv := v1.1.f0
  have cv := v1.cd
  obtain ⟨m3, rfl⟩ : ∃ m3, m2 = m3 + 1 := ⟨m2 - 1, by omega⟩
  have push2 : ((m3 + 1 : Nat) : Int) = (m3 : Int) + 1 := by omega
  rw [push2] at hm2
  have lv : ∀ k : Nat, 64 ≤ k → k ≤ 73 → k ≠ 65 → v.a k t = w.a k t := fun k q1 q2 q3 => (v12 k q1 q2 q3).trans (by rw [xaw k (by omega)])
  refine lp_15 v2 (by omega) v1.2.2.1 ((lv 64 (by omega) (by omega) (by omega)).trans e1) ?_
  unfold f_X12_trying
  rw [if_pos (tp_ib v2 (by omega)), tp_nat v2, if_neg (by rw [v11]; decide), if_neg (by rw [v11]; decide), if_neg (by rw [v11]; decide), if_neg (by rw [v11]; decide), p_em 35 (v.a 66 t) (by omega) (by omega)]
  obtain ⟨E, hE⟩ : ∃ E, E = EM v 35 (v.a 66 t) := ⟨_, rfl⟩
  show ok (((f_X12_endTry N (EM v 35 (v.a 66 t)) (v.i 63) ((EM v 35 (v.a 66 t)).i 75)).bind fun p77 => some p77).bind fun p => f_X12_parse_10 N m3 p) P
  rw [bind_some, ← hE]
  have iE : ∀ j : Nat, j ≠ 20 → E.i j = v.i j := fun j hj => by rw [hE]; exact EM.i hj
  have aE : ∀ k : Nat, k ≠ 21 → k ≠ 22 → k ≠ 23 → E.a k = v.a k := fun k q1 q2 q3 => by rw [hE]; exact EM.a q1 q2 q3
  have cE : cdI E = cdI v + 1 := by rw [hE]; exact EM.cd (by omega) (by omega)
  have E21 : E.a 21 (cdI v).toNat = 35 := by rw [hE, EM.a21, if_pos rfl]
  have bE : E.b = v.b := by rw [hE]; rfl
  have kvE : KP t v E := by rw [hE]; exact (KP.rf t v).em cv.1 (by omega)
  have tabE : TAB E := by rw [hE]; exact v1.2.2.2.1.em (by omega) (by omega)
  clear hE
  have kXE : KP t X E := v3.tr kvE (Nat.le_refl _)
  have ksE : KP t s E := kX.tr kXE (Nat.le_refl _)
  have lE : LXI E := v1.1.of (iE 2 (by decide)) (iE 10 (by decide)) (iE 11 (by decide)) (iE 12 (by decide)) (iE 14 (by decide)) (by rw [bE])
  have fE : fr E = fr v := by unfold fr; rw [iE 11 (by decide)]
  have tkE : tkI E = tkI v := by unfold tkI; rw [iE 17 (by decide)]
  have enE : enI E = enI v := by unfold enI; rw [iE 24 (by decide)]
  have trE : trI E = trI v := by unfold trI; rw [iE 29 (by decide)]
  have caE : caI E = caI v := by unfold caI; rw [iE 33 (by decide)]
  have slE : slI E = slI v := by unfold slI; rw [iE 42 (by decide)]
  have goE : goI E = goI v := by unfold goI; rw [iE 43 (by decide)]
  have peE : peI E = peI v := by unfold peI; rw [iE 59 (by decide)]
  have gus : goI w = goI s := by unfold goI; rw [b2]
  have goV : goI v = goI X := v4.go
  have v5' := v5
  unfold RATE at v5'
  have d1' := d1
  unfold RATN at d1'
  have trv := v3.2.2.2.1.1
  have cdv := v3.2.1.1
  have E75 : E.i 75 = v.i 75 := iE 75 (by decide)
  have ra : RATE s E := by
    unfold RATE
    rw [cE, enE, trE, caE, slE, peE, fE, tkE]
    omega
  have Es : ∀ j : Nat, j = 43 ∨ j = 52 → E.i j = w.i j := fun j hj => by
    rcases hj with q | q
    · subst q; rw [iE 43 (by decide), v4.2.1, xw 43 (by omega) (by omega) (by omega)]
    · subst q; rw [iE 52 (by decide), v4.2.2.1, xw 52 (by omega) (by omega) (by omega)]
  refine TREND hN hI (by omega) (by rw [E75]; exact v1.r) (tp_ib v2 (by omega)) (tp_nat v2) lE ((iE 15 (by decide)).trans v1.2.2.1) tabE (by unfold tpI; rw [iE 63 (by decide)]; exact v2) ksE ((iE 19 (by decide)).trans (v4.1.trans (X19.trans b1))) ((Es 43 (Or.inl rfl)).trans b2) ((Es 52 (Or.inr rfl)).trans b3) ((iE 56 (by decide)).trans (v4.2.2.2.trans X56)) ((iE 38 (by decide)).trans (v6.trans ((xw 38 (by omega) (by omega) (by omega)).trans b5))) ra (by omega) (by omega) (by rw [aE 66 (by decide) (by decide) (by decide), lv 66 (by omega) (by omega) (by omega)]; exact e2) hid (by omega) (fun u hu hf => hC m3 u hu (by omega) (by omega)) (fun X2 R2 x y20 yi2 yb2 ya2 y32 y32i tX2 kX2 hR tR kR hx hx' z => ?_)
  have z1 : ¬ 0 ≤ v.i 18 := fun q => z (by rw [iE 18 (by decide)]; exact q)
  have zw : ¬ 0 ≤ w.i 18 := fun q => z1 (v3.1.2 (by rw [xw 18 (by omega) (by omega) (by omega)]; exact q))
  obtain ⟨W, hW⟩ : ∃ W, W = R2.setI 75 x := ⟨_, rfl⟩
  have W75 : W.i 75 = x := by rw [hW]; rfl
  have Wa : W.a = R2.a := by rw [hW]; rfl
  have kW : KP t s W := by rw [hW]; exact kR.i75 x
  have tbW : TBL R2 W := by rw [hW]; exact TBL.i75 R2 x
  have r0 : ENDR id E W := by
    refine ⟨fun j q1 q2 q3 => ?_, fun k q1 q2 q3 q4 => ?_, fun j hj => ?_⟩
    · rw [hW]; exact (if_neg q2).trans (by rw [hR.1]; exact yi2 j q1)
    · rw [Wa, hR.2.2.1 k q2 q3 q4]; exact ya2 k q1
    · rw [Wa, hR.2.2.1 32 (by decide) (by decide) (by decide)]; exact y32 j hj
  have W32 : gv W 32 id = cdI E := by unfold gv; rw [Wa, hR.2.2.1 32 (by decide) (by decide) (by decide), y32i]; rfl
  rw [← hW]
  clear hW
  have cdW : cdI W = cdI E := by unfold cdI; rw [r0.1 20 (by decide) (by decide) (by decide)]
  have trW : trI W = trI E := by unfold trI; rw [r0.1 29 (by decide) (by decide) (by decide)]
  have slW : slI W = slI E := by unfold slI; rw [r0.1 42 (by decide) (by decide) (by decide)]
  have gW : goI W = goI E := by unfold goI; rw [r0.1 43 (by decide) (by decide) (by decide)]
  have nvs := v1.2.2.2.2.2.2.2.2.2.2.1
  have latX : LAT (ZT id CL) s w X := by
    refine ⟨⟨by omega, by omega, by omega, by rw [xw 3 (by omega) (by omega) (by omega)]; exact Int.le_refl _, fun k _ _ => ⟨by rw [xaw 21 (by decide)], fun _ => ⟨by rw [xaw 23 (by decide)], fun _ => by rw [xaw 22 (by decide)]⟩⟩, fun k _ _ => ⟨by rw [xaw 26 (by decide)], by rw [xaw 28 (by decide)], fun _ => by rw [xaw 27 (by decide)]⟩, fun k _ _ q => ⟨by rw [xaw 30 (by decide)], by rw [x31 k (fun y => q (Or.inl ⟨rfl, y⟩)), l1.1, ya], by rw [xaw 32 (by decide)]⟩, fun k _ _ => ⟨by rw [xaw 35 (by decide)], by rw [xaw 36 (by decide)], fun _ => by rw [xaw 37 (by decide)]⟩⟩, fun k _ _ ho => ?_, by omega, by omega, fun j _ => gv_of (xaw 36 (by decide)) j, fun j j1 j2 => by omega⟩
    obtain ⟨γ, b, M, y1, y2, y3⟩ := ho
    have ehd : hd X b γ = hd w b γ := by
      cases b
      · exact gv_of (xaw 49 (by decide)) γ
      · exact gv_of (xaw 48 (by decide)) γ
    rw [ehd] at y2
    exact ⟨γ, b, M, by omega, y2.of (fun y _ => ⟨by rw [xaw 21 (by decide)], by rw [xaw 22 (by decide)]⟩), y3⟩
  have lat1 : LAT (ZT id CL) s w W := (latX.kp kXE tX.1.1 (by omega)).endr r0 (fun k _ _ q y => q (Or.inl ⟨rfl, y⟩))
  have lat2 : LAT noZ X v W := ((LAT.rf noZ X v).kp kvE v1.tn (by omega)).endr r0 (fun k q1 _ _ y => by omega)
  have kgE := kXE.2.2.2.2.2.2.1
  have kgv := kvE.2.2.2.2.2.2.1
  have e44 : ∀ γ : Nat, (γ : Int) < goI s → W.a 44 γ = v.a 44 γ ∧ W.a 47 γ = v.a 47 γ := fun γ hγ => ⟨by rw [r0.2.1 44 (by decide) (by decide) (by decide) (by decide), aE 44 (by decide) (by decide) (by decide)], by rw [r0.2.1 47 (by decide) (by decide) (by decide) (by decide), aE 47 (by decide) (by decide) (by decide)]⟩
  have e44w : ∀ γ : Nat, (γ : Int) < goI s → W.a 44 γ = w.a 44 γ ∧ W.a 47 γ = w.a 47 γ := fun γ hγ => ⟨by rw [r0.2.1 44 (by decide) (by decide) (by decide) (by decide), kgE.2.1 γ (by omega), xaw 44 (by decide)], by rw [r0.2.1 47 (by decide) (by decide) (by decide) (by decide), kgE.2.2.1 γ (by omega), xaw 47 (by decide)]⟩
  have siteW : ∀ (A : RS) (γ : Nat) (b : Bool) (k : Nat), SITE A E γ b k → SITE A W γ b k := fun A γ b k hs => by
    obtain ⟨q1, M, q2, q3⟩ := hs
    have ehd : hd W b γ = hd E b γ := by
      cases b
      · exact r0.g (k := 49) (by decide) (by decide) (by decide) (by decide) γ
      · exact r0.g (k := 48) (by decide) (by decide) (by decide) (by decide) γ
    exact ⟨q1, M, by rw [ehd]; exact q2.of (fun y _ => ⟨by rw [r0.2.1 21 (by decide) (by decide) (by decide) (by decide)], by rw [r0.2.1 22 (by decide) (by decide) (by decide) (by decide)]⟩), q3⟩
  have siteX : ∀ (γ : Nat) (b : Bool) (k : Nat), SITE s w γ b k → SITE s X γ b k := fun γ b k hs => by
    obtain ⟨q1, M, q2, q3⟩ := hs
    have ehd : hd X b γ = hd w b γ := by
      cases b
      · exact gv_of (xaw 49 (by decide)) γ
      · exact gv_of (xaw 48 (by decide)) γ
    exact ⟨q1, M, by rw [ehd]; exact q2.of (fun y _ => ⟨by rw [xaw 21 (by decide)], by rw [xaw 22 (by decide)]⟩), q3⟩
  have W31 : gv W 31 id = cdI X := by
    rw [r0.g (by decide) (by decide) (by decide) (by decide)]
    unfold gv
    rw [kXE.2.2.2.1.2.2.1 id (by omega), x31i, ← xi]
    rfl
  have peX2 : peI X2 = peI E := by unfold peI; rw [yi2 59 (by decide)]
  have waX2 : waI X2 = waI s := by unfold waI; rw [yi2 56 (by decide), iE 56 (by decide), v4.2.2.2, X56]
  have kqE := kXE.2.2.2.2.2.2.2.2.2.1
  have hn57 : 0 < waI X2 → ¬ X2.a 57 (waI X2 - 1).toNat = E.a 66 t := fun q y => by
    have kwE := ksE.2.2.2.2.2.2.2.2.1
    have es : X2.a 57 (waI X2 - 1).toNat = s.a 57 (waI X2 - 1).toNat := by rw [ya2 57 (by decide), kwE.2.1 _ (by omega)]
    have t8 := (hI.2.2.2.1.2.2.2.2.2.2.2.2.1 (waI X2 - 1).toNat (by omega)).2.1
    have e66 : (E.a 66 t).toInt = (id : Int) := by rw [aE 66 (by decide) (by decide) (by decide), lv 66 (by omega) (by omega) (by omega)]; exact e2
    unfold gv at t8
    rw [← es, y, e66] at t8
    omega
  have ew : (waI w - 1).toNat = (waI s).toNat := by rw [b4]; congr 1; omega
  have hd9 : deI X ≤ 250 := by have := iX.2.2.2.2.2.2.2.2.2.2.2.2.1; have := iX.2.2.2.2.1; omega
  have dX : deI X = deI s + 1 := by
    have des := ns.2.2.2.2.2.2.2.2.1
    have h0 : 0 ≤ (s.i 52).toInt := des.1
    have h4 : 4 * (s.i 52).toInt ≤ fr s + 2 * op s + 2 := des.2
    unfold deI
    rw [xw 52 (by omega) (by omega) (by omega), b3, toInt_add] <;> rw [i1] <;> omega
  refine TS.try (ps := decide (v.i 75 = 1)) (ek := decide (x = 1)) hI (k1 zw) a3 f1 f2 f3 h1 h2 hid g1 ?_ g4 lat1 (by omega) gus e44w (fun γ b k hγ hs => siteW s γ b k ((siteX γ b k hs).kp kXE tX.1.1 (by omega))) kW (by omega) (by omega) (fun hr => ⟨fun _ q => ?_, fun q => by omega⟩) (fun q γ b hγ ha => ?_) ?_
  · have e30 : gv W 30 id = gv w 30 id := by
      rw [r0.g (by decide) (by decide) (by decide) (by decide)]
      unfold gv
      rw [kXE.2.2.2.1.2.1 id (by omega), xaw 30 (by decide)]
    rw [e30]
    refine g3.of (fun j hj => ?_)
    rw [r0.g (by decide) (by decide) (by decide) (by decide)]
    unfold gv
    rw [kXE.2.2.2.2.1.2.2.2.2.1 j (by have := (g4 j hj).2.1; omega), xaw 37 (by decide)]
  · have q : v.i 75 = 1 := of_decide_eq_true q
    refine decide_eq_true (hx'.mpr ⟨E75.trans q, ?_⟩)
    rw [aE 68 (by decide) (by decide) (by decide), lv 68 (by omega) (by omega) (by omega)]; exact hr
  · have q : v.i 75 = 1 := of_decide_eq_true (q (by omega))
    rw [E75.trans q] at hR
    have := ARV.rsv (u := w) hR (by rw [aE 66 (by decide) (by decide) (by decide), lv 66 (by omega) (by omega) (by omega)]; exact e2) a1.2.2.2.1 (by rw [ew]; exact c1) (by omega) (by omega) (by have := kqE.1; omega) (fun j hj => by rw [ya2 60 (by decide), kqE.2.1 j (by omega), xaw 60 (by decide)]) (fun j hj => by rw [ya2 61 (by decide), kqE.2.2.1 j (by omega), xaw 61 (by decide)]) (fun j hj => by rw [ya2 62 (by decide), kqE.2.2.2 j (by omega), xaw 62 (by decide)]) (fun γ hγ' y => by rw [ya2 50 (by decide)]; exact kgE.2.2.2.1 γ (by omega) (by rw [xaw 50 (by decide)]; exact y)) (fun γ hγ' y => by rw [ya2 51 (by decide)]; exact kgE.2.2.2.2.1 γ (by omega) (by rw [xaw 51 (by decide)]; exact y)) (by omega) ha
    exact this.tbs tbW.tbs
  · refine FINP.blk hI (v10 z1) kX v3 v4 v1 lat2 (by omega) ?_ W31 (by omega) (by omega) ((xw 38 (by omega) (by omega) (by omega)).trans b5) dX (by omega) (by omega) (by omega) fXf.2 hd9 (by omega) (by omega) e44 (fun γ b k hγ hs => siteW s γ b k ?_) (fun γ b hγ ha => ?_) (fun q => decide_eq_true q) (fun q => by rw [W75]; exact of_decide_eq_true q)
    · rw [r0.2.1 21 (by decide) (by decide) (by decide) (by decide)]; exact E21
    · have hs' : SITE s v γ b k := ⟨by have := hs.1; have := kX.2.1.1; omega, hs.2⟩
      exact hs'.kp kvE v1.tn (by omega)
    · have h1' : ARV E γ b := ha.kp kvE (by unfold waI; rw [iE 56 (by decide)]) (by omega)
      have h2' : ARV X2 γ b := by
        have es : waI X2 = waI E := by unfold waI; rw [yi2 56 (by decide)]
        rcases h1' with y | ⟨p, y1, y2, y3, y4, y5⟩
        · left; rw [ya2 _ (by cases b <;> decide)]; exact y
        · exact Or.inr ⟨p, by omega, by rw [gv_of (ya2 60 (by decide))]; exact y2, by rw [ya2 61 (by decide)]; exact y3, by omega, by rw [gv_of (ya2 62 (by decide)), gv_of (ya2 57 (by decide)), es]; exact y5⟩
      exact (ARV.rsv0 hR hn57 h2').tbs tbW.tbs
end
section
/-! reading: try: catch by catch -/
theorem TRL {N b : Nat} (hN : 1000 ≤ N) (hbk : 1 ≤ b → RUNBW N (b - 1)) {s : RS} {t id : Nat} {e : Int} {P : RS → Prop} {B0 : Int} (hI : INV s) (h9 : t < 996) (hb : 2 * (t : Int) ≤ fr s + 12 * op s + 2) (hc : 900 - fr s ≤ b) (hF : ∀ u, FS' s u → P u) (hid : (id : Int) = trI s) (hC : ∀ (m : Nat) (u : RS), PS t s u → fr s + 1 ≤ fr u → B0 ≤ m + 40 * fr u → ok (f_X12_parse_10 N m u) P) : ∀ (d m : Nat) (CL : List Nat) (w : RS), TI t s id CL e w → w.a 65 t = 2 → 900 - fr w < d → 36000 + 60 ≤ (m : Int) + 40 * fr w → B0 ≤ (m : Int) + 40 * fr w → ok (f_X12_parse_10 N (m + 1) w) P
  | 0, m, CL, w, hw, w65, hd, hm, hB => by
    have := hw.1.1.1.f0
    omega
  | d + 1, m, CL, w, hw, w65, hd, hm, hB => by
    have ih := TRL hN hbk (e := e) hI h9 hb hc hF hid hC d
    obtain ⟨⟨a1, a2, a3, a4⟩, ⟨b1, b2, b3, b4, b5⟩, ⟨c1, c2⟩, ⟨d1, d2, d3⟩, ⟨e1, e2, e3, e4⟩, ⟨f1, f2, f3⟩, ⟨g1, g2, g3, g4⟩, ⟨h1, h2⟩, k1⟩ := (show TI t s id CL e w from hw)
    have fw := a1.1.f0
    by_cases t1 : w.i 10 = 425
    · exact TRC hN hbk hI h9 hb hc hF hid hw w65 t1 (by omega) (fun m' w' CL' q1 q2 _ q4 q5 => ih m' CL' w' q1 q2 (by omega) (by omega) (by omega))
    by_cases t2 : w.i 10 = 426
    · exact TRF hN hbk hI h9 hb hc hF hid hw w65 t2 (by omega) (fun m' u q1 q2 q3 => hC m' u q1 (by omega) (by omega))
    have ibx : ib (w.i 63) 1000 := tp_ib a2 (by omega)
    have nx : (w.i 63).toNatClampNeg = t := tp_nat a2
    refine lp_15 a2 (by omega) a1.2.2.1 e1 ?_
    unfold f_X12_trying
    rw [if_pos ibx, nx, if_neg (by rw [w65]; decide), if_neg (by rw [w65]; decide), if_pos w65, if_neg t1, if_neg t2]
    have go : ∀ y : Int32, (¬ y = 0 → w.a 67 t = 1 ∨ CL ≠ []) → ok (((f_X12_can N w y).bind fun p50 => (if p50.1 = 0 then some p50.2 else f_X12_trying_417 N p50.2 (w.i 63))).bind fun p => f_X12_parse_10 N m p) P := fun y hy => by
      obtain ⟨G, eG, y1, y2, hG⟩ := p_cn (N := N) a1.1 y
      rw [eG]
      show ok ((if G.1 = 0 then some G.2 else f_X12_trying_417 N G.2 (w.i 63) : Option RS).bind fun p => f_X12_parse_10 N m p) P
      rcases hG with ⟨y3, y4⟩ | ⟨y3, y4, y5, y6⟩
      · rw [if_pos y3]
        exact lp_f (u := G.2) y4 (hF _ (FS'.of a3.1.1 y1 y4 a1.r)) (by omega)
      rw [if_neg (by rw [y3]; decide), y4]
      exact TRN hN hI h9 hid hw (hy y6) ibx nx (fun u hu hf => hC m u hu (by omega) (by omega))
    by_cases c67 : w.a 67 t = 1
    · rw [if_pos c67]; exact go 1 (fun _ => Or.inl c67)
    rw [if_neg c67]
    by_cases c72 : w.a 72 t < 0
    · rw [if_pos c72]; exact go 0 (fun q => absurd rfl q)
    rw [if_neg c72]
    refine go 1 (fun _ => Or.inr (fun q => ?_))
    rcases e3 with ⟨_, q2⟩ | ⟨M, j, q1, _⟩
    · exact c72 (Int32.lt_iff_toInt_lt.mpr (by rw [z_t0]; exact q2))
    · rw [q] at q1
      have := congrArg List.length q1
      simp at this
end
section
/-! reading: try: its head -/
/-- what the head of a try changes -/
def HST (t id : Nat) (s X : RS) : Prop := (∀ j : Nat, (j < 10 ∨ 18 ≤ j) → j ≠ 19 → j ≠ 20 → j ≠ 29 → j ≠ 52 → j ≠ 53 → j ≠ 56 → X.i j = s.i j) ∧ cdI s ≤ cdI X ∧ trI X = trI s + 1 ∧ deI s ≤ deI X ∧ (∀ k : Nat, k < 64 ∨ 74 ≤ k → ¬ (21 ≤ k ∧ k ≤ 23) → k ≠ 30 → k ≠ 31 → k ≠ 57 → k ≠ 58 → X.a k = s.a k) ∧ (∀ k j : Nat, 21 ≤ k → k ≤ 23 → (j : Int) < cdI s → X.a k j = s.a k j) ∧ (∀ j : Nat, j ≠ id → X.a 30 j = s.a 30 j ∧ X.a 31 j = s.a 31 j) ∧ gv X 30 id = -1 ∧ (∀ j : Nat, (j : Int) ≠ waI s → X.a 57 j = s.a 57 j ∧ X.a 58 j = s.a 58 j) ∧ (∀ k j : Nat, 64 ≤ k → k ≤ 73 → j < t → X.a k j = s.a k j) ∧ X.b 9 = s.b 9
theorem HST.ix {t id : Nat} {s X : RS} (h : HST t id s X) {j : Nat} (h0 : j < 10 ∨ 18 ≤ j) (h1 : j ≠ 19) (h2 : j ≠ 20) (h3 : j ≠ 29) (h4 : j ≠ 52) (h5 : j ≠ 53) (h6 : j ≠ 56) : X.i j = s.i j := h.1 j h0 h1 h2 h3 h4 h5 h6
theorem HST.gx {t id : Nat} {s X : RS} (h : HST t id s X) {k : Nat} (j : Nat) (h0 : k < 64) (h1 : ¬ (21 ≤ k ∧ k ≤ 23)) (h2 : k ≠ 30) (h3 : k ≠ 31) (h4 : k ≠ 57) (h5 : k ≠ 58) : gv X k j = gv s k j := gv_of (h.2.2.2.2.1 k (Or.inl h0) h1 h2 h3 h4 h5) j
theorem HST.isch {t id : Nat} {s X : RS} (h : HST t id s X) {y : Int} {L : List Nat} (hi : ISCH s y L) (hL : ∀ x ∈ L, (x : Int) < cdI s) : ISCH X y L := hi.of (fun x hx => ⟨h.2.2.2.2.2.1 21 x (by omega) (by omega) (hL x hx), h.2.2.2.2.2.1 22 x (by omega) (by omega) (hL x hx)⟩)
theorem HST.ehd {t id : Nat} {s X : RS} (h : HST t id s X) (b : Bool) (γ : Nat) : hd X b γ = hd s b γ := by
  rcases bk_cases b with e | e
  · unfold hd; rw [e]; exact h.gx γ (by decide) (by decide) (by decide) (by decide) (by decide) (by decide)
  · unfold hd; rw [e]; exact h.gx γ (by decide) (by decide) (by decide) (by decide) (by decide) (by decide)
theorem TAB.hst {t id : Nat} {s X : RS} (h : TAB s) (H : HST t id s X) (hid : (id : Int) = trI s) (c0 : 0 ≤ caI s) (w0 : 0 ≤ waI s) (g0 : 0 ≤ goI s) (hw : waI X = waI s + 1) (g57 : gv X 57 (waI s).toNat = id) (g58 : gv X 58 (waI s).toNat = goI s) : TAB X := by
  obtain ⟨⟨a0, b1, b2, b3, b4⟩, a1, a2, a3, a4, a5, a6, a7, a8, a9⟩ := h
  have e1 := H.2.1
  have e2 : enI X = enI s := by unfold enI; rw [H.ix (by omega) (by decide) (by decide) (by decide) (by decide) (by decide) (by decide)]
  have e3 := H.2.2.1
  have e4 : caI X = caI s := by unfold caI; rw [H.ix (by omega) (by decide) (by decide) (by decide) (by decide) (by decide) (by decide)]
  have e5 : seI X = seI s := by unfold seI; rw [H.ix (by omega) (by decide) (by decide) (by decide) (by decide) (by decide) (by decide)]
  have e6 : slI X = slI s := by unfold slI; rw [H.ix (by omega) (by decide) (by decide) (by decide) (by decide) (by decide) (by decide)]
  have e7 : goI X = goI s := by unfold goI; rw [H.ix (by omega) (by decide) (by decide) (by decide) (by decide) (by decide) (by decide)]
  have e8 := H.2.2.2.1
  have e10 : peI X = peI s := by unfold peI; rw [H.ix (by omega) (by decide) (by decide) (by decide) (by decide) (by decide) (by decide)]
  have eg : ∀ (k i : Nat), k < 64 → ¬ (21 ≤ k ∧ k ≤ 23) → k ≠ 30 → k ≠ 31 → k ≠ 57 → k ≠ 58 → gv X k i = gv s k i := fun k i q1 q2 q3 q4 q5 q6 => H.gx i q1 q2 q3 q4 q5 q6
  have w57 : ∀ w : Nat, (w : Int) < waI s → gv X 57 w = gv s 57 w := fun w hw => by unfold gv; rw [(H.2.2.2.2.2.2.2.2.1 w (by omega)).1]
  have w58 : ∀ w : Nat, (w : Int) < waI s → gv X 58 w = gv s 58 w := fun w hw => by unfold gv; rw [(H.2.2.2.2.2.2.2.2.1 w (by omega)).2]
  refine ⟨⟨fun γ b hγ => ?_, DJ.of a0 b1 (by omega) (fun γ b L _ h1 h2 => by rw [H.ehd]; exact H.isch h1 h2), fun p hp => ?_, fun w w' q1 q2 => ?_, fun p w q1 q2 q3 => ?_⟩, fun j hj => ?_, fun j hj => ?_, fun j hj => ?_, fun x hx => ?_, fun j hj => ?_, fun g hg => ?_, fun k hk => ?_, fun k hk => ?_, ?_⟩
  · obtain ⟨L, l1, l2⟩ := a0 γ b (by omega)
    exact ⟨L, by rw [H.ehd]; exact H.isch l1 l2, fun x hx => by have := l2 x hx; omega⟩
  · rw [e10] at hp
    rw [eg 62 p (by decide) (by decide) (by decide) (by decide) (by decide) (by decide)]
    have := b2 p hp
    omega
  · rw [w57 w (by omega)]
    by_cases c : (w' : Int) < waI s
    · rw [w57 w' c]; exact b3 w w' q1 c
    · have e : w' = (waI s).toNat := by omega
      rw [e, g57]
      have := (a8 w (by omega)).2.1
      omega
  · rw [e10] at q1
    rw [eg 62 p (by decide) (by decide) (by decide) (by decide) (by decide) (by decide)] at q3
    rw [eg 60 p (by decide) (by decide) (by decide) (by decide) (by decide) (by decide)]
    by_cases c : (w : Int) < waI s
    · rw [w57 w c] at q3
      rw [w58 w c]
      exact b4 p w q1 c q3
    · have e : w = (waI s).toNat := by omega
      rw [e, g57] at q3
      have := b2 p q1
      omega
  · rw [e2] at hj ⊢
    rw [eg 27 j (by decide) (by decide) (by decide) (by decide) (by decide) (by decide)]; exact a1 j hj
  · rw [e4] at hj ⊢
    rw [eg 37 j (by decide) (by decide) (by decide) (by decide) (by decide) (by decide)]; exact a2 j hj
  · rw [e4]
    by_cases c : j = id
    · rw [c, H.2.2.2.2.2.2.2.1]; omega
    · have e : gv X 30 j = gv s 30 j := by unfold gv; rw [(H.2.2.2.2.2.2.1 j c).1]
      rw [e]; exact a3 j (by omega)
  · rw [e5] at hx
    rw [e6, e4, eg 40 x (by decide) (by decide) (by decide) (by decide) (by decide) (by decide), H.2.2.2.2.1 41 (by omega) (by decide) (by decide) (by decide) (by decide) (by decide)]
    have := a4 x hx
    refine ⟨this.1, this.2.1, ?_⟩
    rw [← this.2.2]
    constructor
    · rintro ⟨j, j1, j2⟩; exact ⟨j, j1, by rw [← j2, eg 36 j (by decide) (by decide) (by decide) (by decide) (by decide) (by decide)]⟩
    · rintro ⟨j, j1, j2⟩; exact ⟨j, j1, by rw [← j2, eg 36 j (by decide) (by decide) (by decide) (by decide) (by decide) (by decide)]⟩
  · rw [e4] at hj
    rw [e6, eg 36 j (by decide) (by decide) (by decide) (by decide) (by decide) (by decide)]; exact a5 j hj
  · rw [e7] at hg
    rw [eg 47 g (by decide) (by decide) (by decide) (by decide) (by decide) (by decide)]
    have := a6 g hg
    omega
  · rw [e10] at hk
    rw [eg 60 k (by decide) (by decide) (by decide) (by decide) (by decide) (by decide), H.2.2.2.2.1 61 (by omega) (by decide) (by decide) (by decide) (by decide) (by decide)]; exact a7 k hk
  · rw [e7]
    by_cases c : (k : Int) < waI s
    · rw [w57 k c, w58 k c]
      have := a8 k c
      omega
    · have e : k = (waI s).toNat := by omega
      rw [e, g57, g58]
      omega
  · rw [H.ix (j := 75) (by omega) (by decide) (by decide) (by decide) (by decide) (by decide) (by decide)]; exact a9
theorem KP.hst {t id : Nat} {s X : RS} (H : HST t id s X) (hid : (id : Int) = trI s) (hw : waI s ≤ waI X) : KP t s X := by
  have e2 : enI X = enI s := by unfold enI; rw [H.ix (by omega) (by decide) (by decide) (by decide) (by decide) (by decide) (by decide)]
  have e3 := H.2.2.1
  have e4 : caI X = caI s := by unfold caI; rw [H.ix (by omega) (by decide) (by decide) (by decide) (by decide) (by decide) (by decide)]
  have e5 : seI X = seI s := by unfold seI; rw [H.ix (by omega) (by decide) (by decide) (by decide) (by decide) (by decide) (by decide)]
  have e6 : slI X = slI s := by unfold slI; rw [H.ix (by omega) (by decide) (by decide) (by decide) (by decide) (by decide) (by decide)]
  have e7 : goI X = goI s := by unfold goI; rw [H.ix (by omega) (by decide) (by decide) (by decide) (by decide) (by decide) (by decide)]
  have e10 : peI X = peI s := by unfold peI; rw [H.ix (by omega) (by decide) (by decide) (by decide) (by decide) (by decide) (by decide)]
  have ea : ∀ k : Nat, k < 64 ∨ 74 ≤ k → ¬ (21 ≤ k ∧ k ≤ 23) → k ≠ 30 → k ≠ 31 → k ≠ 57 → k ≠ 58 → X.a k = s.a k := H.2.2.2.2.1
  have eb : ∀ (k : Nat) (m : Int), k < 64 → ¬ (21 ≤ k ∧ k ≤ 23) → k ≠ 30 → k ≠ 31 → k ≠ 57 → k ≠ 58 → bel k m s X := fun k m q1 q2 q3 q4 q5 q6 j _ => by rw [ea k (Or.inl q1) q2 q3 q4 q5 q6]
  refine ⟨⟨⟨fun j hj => H.ix (by omega) (by omega) (by omega) (by omega) (by omega) (by omega) (by omega), fun k hk => ea k (by omega) (by omega) (by omega) (by omega) (by omega) (by omega), H.2.2.2.2.2.2.2.2.2.2⟩, fun z => by rw [H.ix (j := 18) (by omega) (by decide) (by decide) (by decide) (by decide) (by decide) (by decide)]; exact z⟩, ⟨H.2.1, fun j hj => H.2.2.2.2.2.1 21 j (by omega) (by omega) hj, fun j hj => H.2.2.2.2.2.1 22 j (by omega) (by omega) hj, fun j hj => H.2.2.2.2.2.1 23 j (by omega) (by omega) hj⟩, ⟨by omega, eb _ _ (by decide) (by decide) (by decide) (by decide) (by decide) (by decide), eb _ _ (by decide) (by decide) (by decide) (by decide) (by decide) (by decide), eb _ _ (by decide) (by decide) (by decide) (by decide) (by decide) (by decide), eb _ _ (by decide) (by decide) (by decide) (by decide) (by decide) (by decide)⟩, ⟨by omega, fun j hj => (H.2.2.2.2.2.2.1 j (by omega)).1, fun j hj => (H.2.2.2.2.2.2.1 j (by omega)).2, eb _ _ (by decide) (by decide) (by decide) (by decide) (by decide) (by decide)⟩, ⟨by omega, eb _ _ (by decide) (by decide) (by decide) (by decide) (by decide) (by decide), eb _ _ (by decide) (by decide) (by decide) (by decide) (by decide) (by decide), eb _ _ (by decide) (by decide) (by decide) (by decide) (by decide) (by decide), eb _ _ (by decide) (by decide) (by decide) (by decide) (by decide) (by decide), fun j h1 h2 => by omega⟩, ⟨by omega, by omega, eb _ _ (by decide) (by decide) (by decide) (by decide) (by decide) (by decide), eb _ _ (by decide) (by decide) (by decide) (by decide) (by decide) (by decide)⟩, ⟨by omega, eb _ _ (by decide) (by decide) (by decide) (by decide) (by decide) (by decide), eb _ _ (by decide) (by decide) (by decide) (by decide) (by decide) (by decide), fun γ _ q => by rw [ea 50 (by omega) (by decide) (by decide) (by decide) (by decide) (by decide)]; exact q, fun γ _ q => by rw [ea 51 (by omega) (by decide) (by decide) (by decide) (by decide) (by decide)]; exact q, fun γ _ => Or.inl (by rw [ea 46 (by omega) (by decide) (by decide) (by decide) (by decide) (by decide)])⟩, fun γ b L hγ hI hL => ⟨[], by rw [H.ehd]; exact H.isch hI hL, fun x hx => absurd hx List.not_mem_nil⟩, ⟨hw, fun j hj => (H.2.2.2.2.2.2.2.2.1 j (by omega)).1, fun j hj => (H.2.2.2.2.2.2.2.2.1 j (by omega)).2⟩, ⟨by omega, eb _ _ (by decide) (by decide) (by decide) (by decide) (by decide) (by decide), eb _ _ (by decide) (by decide) (by decide) (by decide) (by decide) (by decide), eb _ _ (by decide) (by decide) (by decide) (by decide) (by decide) (by decide)⟩, fun k k1 k2 j hj => H.2.2.2.2.2.2.2.2.2.1 k j k1 k2 (by omega)⟩
end
section
/-! reading: try: its resources -/
/-- the head so far: n resources, y says whether there is a with -/
def HL (t id : Nat) (s : RS) (n : Nat) (y : Int32) (σ : RS) : Prop := HST t id s σ ∧ LXI σ ∧ (σ.i 19 = s.i 19 ∧ σ.i 52 = s.i 52 + 1 ∧ σ.i 56 = s.i 56) ∧ cdI σ = cdI s + 2 + n ∧ (σ.a 21 (cdI s).toNat = 1 ∧ σ.a 21 (cdI s + 1).toNat = 31 ∧ (σ.a 22 (cdI s + 1).toNat).toInt = (id : Int)) ∧ gv σ 31 id = -1 ∧ (σ.a 57 = s.a 57 ∧ σ.a 58 = s.a 58) ∧ OPS n σ (cdI s + 2) ∧ (σ.a 64 t = 15 ∧ (σ.a 66 t).toInt = (id : Int) ∧ σ.a 67 t = y)
/-- its numbers while there is no fault -/
def HG (s : RS) (n : Nat) (σ : RS) : Prop := fr s + 2 + 2 * n ≤ fr σ ∧ (0 < n → fr s + 3 + 2 * n ≤ fr σ) ∧ tkI s + 1 ≤ tkI σ ∧ tkI σ - tkI s ≤ fr σ - fr s
theorem HST.lx {t id : Nat} {s σ τ : RS} (h : HST t id s σ) (x : LX σ τ) : HST t id s τ := by
  obtain ⟨a1, a2, a3, a4, a5, a6, a7, a8, a9, a10, a11⟩ := h
  have c : cdI τ = cdI σ := x.tbl.cd
  have tt : trI τ = trI σ := x.tbl.tt
  have d : deI τ = deI σ := x.de
  refine ⟨fun j q0 q1 q2 q3 q4 q5 q6 => (x.2.2.1 j q0 q1).trans (a1 j q0 q1 q2 q3 q4 q5 q6), by omega, by omega, by omega, ?_, ?_, ?_, ?_, ?_, ?_, by rw [x.2.1]; exact a11⟩
  · rw [x.1]; exact a5
  · rw [x.1]; exact a6
  · rw [x.1]; exact a7
  · unfold gv at *; rw [x.1]; exact a8
  · rw [x.1]; exact a9
  · rw [x.1]; exact a10
theorem OPS.eqa {σ τ : RS} : ∀ {n : Nat} {x : Int}, OPS n σ x → τ.a = σ.a → OPS n τ x
  | 0, _, _, _ => True.intro
  | n + 1, x, ⟨p1, p2, p3⟩, h => ⟨by unfold gv at *; rw [h]; exact p1, by unfold gv at *; rw [h]; exact p2, OPS.eqa p3 h⟩
theorem HL.lx {t id n : Nat} {s σ τ : RS} {y : Int32} (h : HL t id s n y σ) (x : LX σ τ) (h19 : τ.i 19 = σ.i 19) : HL t id s n y τ := by
  obtain ⟨a1, a2, ⟨a3, a4, a5⟩, a6, a7, a8, a9, a10, a11⟩ := h
  refine ⟨a1.lx x, x.2.2.2.1, ⟨h19.trans a3, (x.2.2.1 52 (by omega) (by omega)).trans a4, (x.2.2.1 56 (by omega) (by omega)).trans a5⟩, by rw [x.tbl.cd]; exact a6, by rw [x.1]; exact a7, by unfold gv at *; rw [x.1]; exact a8, by rw [x.1]; exact a9, a10.eqa x.1, by rw [x.1]; exact a11⟩
theorem OPS.snoc {σ : RS} : ∀ {n : Nat} {x : Int}, OPS n σ x → gv σ 21 (x + n).toNat = 32 → (0 ≤ gv σ 22 (x + n).toNat ∧ gv σ 22 (x + n).toNat < 8) → OPS (n + 1) σ x
  | 0, x, _, h1, h2 => by
    have e : x + ((0 : Nat) : Int) = x := by omega
    rw [e] at h1 h2
    exact ⟨h1, h2, True.intro⟩
  | n + 1, x, ⟨p1, p2, p3⟩, h1, h2 => by
    have e : x + ((n + 1 : Nat) : Int) = x + 1 + (n : Int) := by omega
    rw [e] at h1 h2
    exact ⟨p1, p2, OPS.snoc p3 h1 h2⟩
theorem HL.em {t id n : Nat} {s σ : RS} {y x : Int32} (h : HL t id s n y σ) (c0 : 0 ≤ cdI s) (c3 : cdI σ < 3000) (hx : 0 ≤ x.toInt ∧ x.toInt < 8) : HL t id s (n + 1) y (EM σ 32 x) := by
  obtain ⟨a1, a2, ⟨a3, a4, a5⟩, a6, a7, a8, a9, a10, a11⟩ := h
  obtain ⟨b1, b2, b3, b4, b5, b6, b7, b8, b9, b10, b11⟩ := a1
  have ec := EM.cd (u := σ) (o := 32) (x := x) (by omega) c3
  obtain ⟨E, hE⟩ : ∃ E, E = EM σ 32 x := ⟨_, rfl⟩
  have iE : ∀ j : Nat, j ≠ 20 → E.i j = σ.i j := fun j hj => by rw [hE]; exact EM.i hj
  have aE : ∀ k : Nat, k ≠ 21 → k ≠ 22 → k ≠ 23 → E.a k = σ.a k := fun k q1 q2 q3 => by rw [hE]; exact EM.a q1 q2 q3
  have loE : ∀ k j : Nat, j ≠ (cdI σ).toNat → E.a k j = σ.a k j := fun k j hj => by
    rw [hE]
    by_cases c1 : k = 21
    · rw [c1, EM.a21, if_neg hj]
    by_cases c2 : k = 22
    · rw [c2, EM.a22, if_neg hj]
    by_cases c3 : k = 23
    · rw [c3, EM.a23, if_neg hj]
    · rw [EM.a c1 c2 c3]
  have E21 : E.a 21 (cdI σ).toNat = 32 := by rw [hE, EM.a21, if_pos rfl]
  have E22 : E.a 22 (cdI σ).toNat = x := by rw [hE, EM.a22, if_pos rfl]
  have lE : LXI E := by rw [hE]; exact a2.em
  have bE : E.b = σ.b := by rw [hE]; rfl
  rw [← hE] at ec ⊢
  clear hE
  have tE : trI E = trI σ := by unfold trI; rw [iE 29 (by decide)]
  have dE : deI E = deI σ := by unfold deI; rw [iE 52 (by decide)]
  have e32 : (32 : Int32).toInt = 32 := by decide
  have opsE : OPS n E (cdI s + 2) := a10.of (by omega) (fun k k1 k2 _ => ⟨loE 21 k (by omega), loE 22 k (by omega)⟩)
  refine ⟨⟨fun j q0 q1 q2 q3 q4 q5 q6 => (iE j q2).trans (b1 j q0 q1 q2 q3 q4 q5 q6), by omega, by omega, by omega, fun k q1 q2 q3 q4 q5 q6 => (aE k (by omega) (by omega) (by omega)).trans (b5 k q1 q2 q3 q4 q5 q6), fun k j q1 q2 q3 => (loE k j (by omega)).trans (b6 k j q1 q2 q3), ?_, ?_, ?_, fun k j q1 q2 q3 => by rw [aE k (by omega) (by omega) (by omega)]; exact b10 k j q1 q2 q3, by rw [bE]; exact b11⟩, lE, ⟨(iE 19 (by decide)).trans a3, (iE 52 (by decide)).trans a4, (iE 56 (by decide)).trans a5⟩, by omega, ⟨by rw [loE 21 _ (by omega)]; exact a7.1, by rw [loE 21 _ (by omega)]; exact a7.2.1, by rw [loE 22 _ (by omega)]; exact a7.2.2⟩, ?_, ⟨by rw [aE 57 (by decide) (by decide) (by decide)]; exact a9.1, by rw [aE 58 (by decide) (by decide) (by decide)]; exact a9.2⟩, ?_, ?_⟩
  · rw [aE 30 (by decide) (by decide) (by decide), aE 31 (by decide) (by decide) (by decide)]; exact b7
  · rw [gv_of (aE 30 (by decide) (by decide) (by decide))]; exact b8
  · rw [aE 57 (by decide) (by decide) (by decide), aE 58 (by decide) (by decide) (by decide)]; exact b9
  · rw [gv_of (aE 31 (by decide) (by decide) (by decide))]; exact a8
  · refine opsE.snoc ?_ ?_
    · rw [← a6]; unfold gv; rw [E21]; exact e32
    · rw [← a6]; unfold gv; rw [E22]; exact hx
  · rw [aE 64 (by decide) (by decide) (by decide), aE 66 (by decide) (by decide) (by decide), aE 67 (by decide) (by decide) (by decide)]; exact a11
theorem bnd_some {α β : Type} (x : α) (f : α → Option β) : (some x).bind f = f x := rfl
theorem p_t140 {N : Nat} (hN : 1000 ≤ N) {t id : Nat} {s : RS} {y x1 : Int32} (hI : INV s) : ∀ (d : Nat) (σ : RS) (x2 : Int32) (n : Nat), HL t id s n y σ → (x2 = 0 ∨ x2 = 1) → (σ.i 15 = 0 → HG s n σ ∧ (x2 = 1 → (σ.i 10 = 424 ∨ σ.i 10 = 44) ∧ (n = 0 → σ.i 10 = 424)) ∧ (x2 = 0 → y = 1 → 1 ≤ n)) → 902 - fr σ ≤ d → ∃ (σ' : RS) (n' : Nat), f_X12_trying_140 N d σ x1 x2 = f_X12_trying_215 N σ' x1 ∧ HL t id s n' y σ' ∧ (σ'.i 15 = 0 → HG s n' σ' ∧ (y = 1 → 1 ≤ n'))
  | 0, σ, x2, n, h, _, _, hd => by
    have := h.2.1.f0
    omega
  | d + 1, σ, x2, n, h, hx, hg, hd => by
    have ih := p_t140 hN (y := y) (x1 := x1) (t := t) (id := id) hI d
    have fσ := h.2.1.f0
    have hs := hI.2.2.2.2
    have push : ((d + 1 : Nat) : Int) = (d : Int) + 1 := by omega
    rw [push] at hd
    have e0 : f_X12_trying_140 N (d + 1) σ x1 x2 = b_X12_trying_140 N (f_X12_trying_140 N d) σ x1 x2 := rfl
    rw [e0]
    clear e0
    unfold b_X12_trying_140
    by_cases c2 : x2 = 0
    · rw [if_pos c2]
      exact ⟨σ, n, rfl, h, fun q => ⟨(hg q).1, (hg q).2.2 c2⟩⟩
    rw [if_neg c2]
    have x21 : x2 = 1 := hx.resolve_left c2
    by_cases c15 : σ.i 15 = 0
    case neg =>
      rw [if_neg c15]
      exact ⟨σ, n, rfl, h, fun q => absurd q c15⟩
    rw [if_pos c15]
    obtain ⟨⟨g1, g2, g3, g4⟩, g5, -⟩ := hg c15
    obtain ⟨g5, g6⟩ := g5 x21
    have hz : ¬ σ.i 10 = 0 := by
      rcases g5 with q | q <;> rw [q] <;> decide
    obtain ⟨R, eR, x1', x2', x3', x4'⟩ := p_nx hN h.2.1
    obtain ⟨R15, rc⟩ := x4' c15
    obtain ⟨k1, k2, k3⟩ := rc hz
    rw [eR, bnd_some]
    have hR := h.lx x1' x2'
    have fR := hR.2.1.f0
    have tks : 0 ≤ tkI s ∧ tkI s ≤ fr s + 1 := hs.2.2.2.2.2.2.2.2.2.2.2
    have fs := hI.1.f0
    have tR : tkI R = tkI σ + 1 := tk_add k1 ⟨by omega, by omega⟩
    by_cases c4 : R.i 10 = 4
    · rw [if_pos c4, can1 R15 (by rw [c4]; decide), bnd_some]
      have cd3 : cdI R < 3000 := by have := hR.2.2.2.1; have := hs.2.1; omega
      have cd0 : 0 ≤ cdI R := by have := hR.2.2.2.1; have := hI.cd; omega
      rw [if_neg (show ¬ (1 : Int32) = 0 by decide), p_em 32 (R.i 14) cd0 cd3, bnd_some]
      have h14 := hR.2.1.2.2.2.2.2.1 (Or.inr c4)
      have e7 : (7 : Int32).toInt = 7 := by decide
      have l1 := le_int h14.1
      have l2 := le_int h14.2
      rw [z_t0] at l1
      rw [e7] at l2
      have hE := hR.em (x := R.i 14) hI.cd.1 cd3 ⟨l1, by omega⟩
      obtain ⟨T, eT, z1, z2, z3, z4⟩ := p_nx hN hE.2.1
      obtain ⟨T15, tc⟩ := z4 R15
      have E10 : (EM R 32 (R.i 14)).i 10 = 4 := c4
      obtain ⟨j1, j2, j3⟩ := tc (by rw [E10]; decide)
      rw [eT, bnd_some]
      have hT := hE.lx z1 z2
      have j2 : fr R + 1 ≤ fr T := j2
      have tT : tkI T = tkI R + 1 := tk_add (u := R) j1 ⟨by omega, by omega⟩
      have f5 : fr s + 3 + 2 * ((n + 1 : Nat) : Int) ≤ fr T := by
        by_cases q0 : n = 0
        · have := k3 (Or.inl (by rw [g6 q0]; decide))
          omega
        · have := g2 (by omega)
          omega
      have hgT : HG s (n + 1) T := ⟨by omega, fun _ => f5, by omega, by omega⟩
      rw [if_pos T15]
      by_cases c44 : T.i 10 = 44
      · rw [if_pos c44]
        exact ih T 1 (n + 1) hT (Or.inr rfl) (fun _ => ⟨hgT, fun _ => ⟨Or.inr c44, fun q => by omega⟩, fun q => absurd q (by decide)⟩) (by omega)
      · rw [if_neg c44]
        exact ih T 0 (n + 1) hT (Or.inl rfl) (fun _ => ⟨hgT, fun q => absurd q (by decide), fun _ _ => by omega⟩) (by omega)
    · rw [if_neg c4]
      obtain ⟨G, eG, y1, y2, y3⟩ := p_cn (N := N) hR.2.1 0
      rw [eG, bnd_some]
      rcases y3 with ⟨y3, y4⟩ | ⟨_, _, _, y6⟩
      · rw [if_pos y3, if_neg y4]
        have := y1.2.2.2.2.2
        exact ih G.2 0 n (hR.lx y1 y2) (Or.inl rfl) (fun q => absurd q y4) (by omega)
      · exact absurd rfl y6
end
section
/-! reading: try: from its first word -/
theorem TRX.mono {CL : List Nat} {id : Nat} {x e : Int} {ρ ρ' : Prop} {s w : RS} (h : TRX CL id x e ρ s w) (hr : ρ → ρ') : TRX CL id x e ρ' s w := by
  intro f C hA hC h' o v rs ps ek hx hy
  obtain ⟨S0, S1, hS⟩ := h f C hA hC h' o v rs ps ek hx hy
  exact ⟨S0, S1, fun g q1 q2 q3 q4 q5 q6 q7 => hS g q1 q2 q3 q4 q5 (fun z => q6 (hr z)) q7⟩
/-- the head is done, the body begins -/
theorem p_t215 {N : Nat} {t id n : Nat} {s σ : RS} {y x1 : Int32} (hI : INV s) (ht : tpI s = t) (h9 : t < 998) (ibx : ib x1 1000) (nx : x1.toNatClampNeg = t) (h : HL t id s n y σ) : ∃ X, f_X12_trying_215 N σ x1 = some (TH X t 1 3) ∧ HST t id s X ∧ (∀ j : Nat, j ≠ 56 → X.i j = σ.i j) ∧ waI X = waI s + 1 ∧ X.b = σ.b ∧ gv X 57 (waI s).toNat = id ∧ gv X 58 (waI s).toNat = goI s ∧ (∀ k : Nat, k ≠ 57 → k ≠ 58 → k ≠ 72 → X.a k = σ.a k) ∧ X.a 72 t = -1 := by
  obtain ⟨a1, a2, ⟨a3, a4, a5⟩, a6, a7, a8, a9, a10, a11⟩ := h
  obtain ⟨b1, b2, b3, b4, b5, b6, b7, b8, b9, b10, b11⟩ := a1
  have ns := hI.2.2.2.2
  have w0 := ns.2.2.2.2.2.2.2.2.2.1
  have hop := hI.op
  have w0' : 0 ≤ (s.i 56).toInt ∧ (s.i 56).toInt ≤ op s := w0
  have ew : (σ.i 56).toNatClampNeg = (waI s).toNat := by rw [a5]; rfl
  unfold f_X12_trying_215
  rw [if_pos ibx, nx, if_pos (show ib (σ.i 56) 40 from ⟨by rw [a5]; omega, by rw [a5]; omega⟩), ew]
  obtain ⟨A, hA⟩ : ∃ A, A = RS.setA σ 57 (waI s).toNat (σ.a 66 t) := ⟨_, rfl⟩
  have iA : A.i = σ.i := by rw [hA]; rfl
  have bA : A.b = σ.b := by rw [hA]; rfl
  have aA : ∀ k : Nat, k ≠ 57 → A.a k = σ.a k := fun k hk => by rw [hA]; exact setA_nk hk
  have A57 : A.a 57 (waI s).toNat = σ.a 66 t := by rw [hA]; exact setA_at
  have A57n : ∀ j : Nat, j ≠ (waI s).toNat → A.a 57 j = σ.a 57 j := fun j hj => by rw [hA]; exact setA_ne hj
  rw [← hA]
  clear hA
  obtain ⟨B, hB⟩ : ∃ B, B = RS.setI (RS.setA A 58 (waI s).toNat (σ.i 43)) 56 (σ.i 56 + 1) := ⟨_, rfl⟩
  have iB : ∀ j : Nat, j ≠ 56 → B.i j = A.i j := fun j hj => by rw [hB]; exact if_neg hj
  have B56 : B.i 56 = σ.i 56 + 1 := by rw [hB]; rfl
  have bB : B.b = A.b := by rw [hB]; rfl
  have aB : ∀ k : Nat, k ≠ 58 → B.a k = A.a k := fun k hk => by rw [hB]; exact setA_nk hk
  have B58 : B.a 58 (waI s).toNat = σ.i 43 := by rw [hB]; exact setA_at
  have B58n : ∀ j : Nat, j ≠ (waI s).toNat → B.a 58 j = A.a 58 j := fun j hj => by rw [hB]; exact setA_ne hj
  rw [← hB]
  clear hB
  obtain ⟨X, hX⟩ : ∃ X, X = RS.setA B 72 t (-1) := ⟨_, rfl⟩
  have iX : X.i = B.i := by rw [hX]; rfl
  have bX : X.b = B.b := by rw [hX]; rfl
  have aX : ∀ k : Nat, k ≠ 72 → X.a k = B.a k := fun k hk => by rw [hX]; exact setA_nk hk
  have X72 : X.a 72 t = -1 := by rw [hX]; exact setA_at
  have X72n : ∀ j : Nat, j ≠ t → X.a 72 j = B.a 72 j := fun j hj => by rw [hX]; exact setA_ne hj
  rw [← hX]
  clear hX
  have i56 : ∀ j : Nat, j ≠ 56 → X.i j = σ.i j := fun j hj => by rw [iX, iB j hj, iA]
  have ax : ∀ k : Nat, k ≠ 57 → k ≠ 58 → k ≠ 72 → X.a k = σ.a k := fun k q1 q2 q3 => by rw [aX k q3, aB k q2, aA k q1]
  have e1 : (1 : Int32).toInt = 1 := by decide
  have wX : waI X = waI s + 1 := by
    show (X.i 56).toInt = (s.i 56).toInt + 1
    rw [iX, B56, a5, toInt_add] <;> rw [e1] <;> omega
  have tX : tpI X = t := by
    unfold tpI
    rw [i56 63 (by decide), b1 63 (by omega) (by decide) (by decide) (by decide) (by decide) (by decide) (by decide)]
    exact ht
  rw [p_th 1 3 tX (by omega)]
  have g57 : gv X 57 (waI s).toNat = id := by unfold gv; rw [aX 57 (by decide), aB 57 (by decide), A57]; exact a11.2.1
  have g58 : gv X 58 (waI s).toNat = goI s := by
    unfold gv; rw [aX 58 (by decide), B58, b1 43 (by omega) (by decide) (by decide) (by decide) (by decide) (by decide) (by decide)]; rfl
  have cX : cdI X = cdI σ := by unfold cdI; rw [i56 20 (by decide)]
  have ttX : trI X = trI σ := by unfold trI; rw [i56 29 (by decide)]
  have dX : deI X = deI σ := by unfold deI; rw [i56 52 (by decide)]
  refine ⟨X, rfl, ⟨fun j q0 q1 q2 q3 q4 q5 q6 => (i56 j q6).trans (b1 j q0 q1 q2 q3 q4 q5 q6), by omega, by omega, by omega, fun k q1 q2 q3 q4 q5 q6 => (ax k q5 q6 (by omega)).trans (b5 k q1 q2 q3 q4 q5 q6), fun k j q1 q2 q3 => by rw [ax k (by omega) (by omega) (by omega)]; exact b6 k j q1 q2 q3, by rw [ax 30 (by decide) (by decide) (by decide), ax 31 (by decide) (by decide) (by decide)]; exact b7, by rw [gv_of (ax 30 (by decide) (by decide) (by decide))]; exact b8, fun j hj => ⟨?_, ?_⟩, fun k j q1 q2 q3 => ?_, by rw [bX, bB, bA]; exact b11⟩, i56, wX, by rw [bX, bB, bA], g57, g58, ax, X72⟩
  · rw [aX 57 (by decide), aB 57 (by decide), A57n j (by omega)]; exact (b9 j hj).1
  · rw [aX 58 (by decide), B58n j (by omega), aA 58 (by decide)]; exact (b9 j hj).2
  · by_cases c : k = 72
    · rw [c, X72n j (by omega), aB 72 (by decide), aA 72 (by decide), ← c]; exact b10 k j q1 q2 q3
    · rw [ax k (by omega) (by omega) c]; exact b10 k j q1 q2 q3
/-- the first steps: a row, TRIES -/
theorem p_try0 {N : Nat} {t id : Nat} {s R : RS} (hI : INV s) (ht : tpI s = t) (h9 : t < 998) (hid : (id : Int) = trI s) (rI : ∀ j : Nat, (j < 10 ∨ 18 ≤ j) → j ≠ 19 → j ≠ 20 → j ≠ 53 → R.i j = s.i j) (hR : MK t 15 s R) (f2 : fr s + 2 ≤ fr R) : ∃ E, f_X12_emit N (RS.setI (RS.setA (RS.setA (RS.setA R 66 t (R.i 29)) 30 id (-1)) 31 id (-1)) 29 ((R.i 29) + 1)) 31 (R.i 29) = some (R.i 20, E) ∧ E.i 10 = R.i 10 ∧ E.i 15 = 0 ∧ E.i 52 = s.i 52 ∧ ∀ y : Int32, HL t id s 0 y (RS.setA (RS.setI E 52 (E.i 52 + 1)) 67 t y) ∧ HG s 0 (RS.setA (RS.setI E 52 (E.i 52 + 1)) 67 t y) := by
  obtain ⟨r1, r2, r3, r4, r5, r6, r7, r8, r9, r10, r11, r12, r13, r14⟩ := hR
  have ns := hI.2.2.2.2
  have cs := hI.cd
  have fs := hI.1.f0
  have hop := hI.op
  obtain ⟨Q, hQ⟩ : ∃ Q, Q = RS.setI (RS.setA (RS.setA (RS.setA R 66 t (R.i 29)) 30 id (-1)) 31 id (-1)) 29 ((R.i 29) + 1) := ⟨_, rfl⟩
  have iQ : ∀ j : Nat, j ≠ 29 → Q.i j = R.i j := fun j hj => by rw [hQ]; exact if_neg hj
  have Q29 : Q.i 29 = R.i 29 + 1 := by rw [hQ]; rfl
  have bQ : Q.b = R.b := by rw [hQ]; rfl
  have aQ : ∀ k : Nat, k ≠ 66 → k ≠ 30 → k ≠ 31 → Q.a k = R.a k := fun k q1 q2 q3 => by rw [hQ]; exact (setA_nk q3).trans ((setA_nk q2).trans (setA_nk q1))
  have nQ : ∀ k j : Nat, j ≠ t → j ≠ id → Q.a k j = R.a k j := fun k j q1 q2 => by rw [hQ]; exact (setA_ne q2).trans ((setA_ne q2).trans (setA_ne q1))
  have n66 : ∀ j : Nat, j ≠ t → Q.a 66 j = R.a 66 j := fun j hj => by
    have e : Q.a 66 = (RS.setA R 66 t (R.i 29)).a 66 := by rw [hQ]; exact (setA_nk (by decide)).trans (setA_nk (by decide))
    rw [e]; exact setA_ne hj
  have n30 : ∀ j : Nat, j ≠ id → Q.a 30 j = R.a 30 j := fun j hj => by
    have e : Q.a 30 = (RS.setA (RS.setA R 66 t (R.i 29)) 30 id (-1)).a 30 := by rw [hQ]; exact setA_nk (by decide)
    rw [e, setA_ne hj, setA_nk (by decide)]
  have n31 : ∀ j : Nat, j ≠ id → Q.a 31 j = R.a 31 j := fun j hj => by
    have e : Q.a 31 = (RS.setA (RS.setA (RS.setA R 66 t (R.i 29)) 30 id (-1)) 31 id (-1)).a 31 := by rw [hQ]; rfl
    rw [e, setA_ne hj, setA_nk (by decide), setA_nk (by decide)]
  have Q66 : Q.a 66 t = R.i 29 := by
    have e : Q.a 66 = (RS.setA R 66 t (R.i 29)).a 66 := by rw [hQ]; exact (setA_nk (by decide)).trans (setA_nk (by decide))
    rw [e]; exact setA_at
  have Q30 : Q.a 30 id = -1 := by
    have e : Q.a 30 = (RS.setA (RS.setA R 66 t (R.i 29)) 30 id (-1)).a 30 := by rw [hQ]; exact setA_nk (by decide)
    rw [e]; exact setA_at
  have Q31 : Q.a 31 id = -1 := by rw [hQ]; exact setA_at
  rw [← hQ]
  clear hQ
  have R29 : R.i 29 = s.i 29 := rI 29 (by omega) (by decide) (by decide) (by decide)
  have R29I : (R.i 29).toInt = (id : Int) := by rw [R29, hid]; rfl
  have cQ : cdI Q = cdI s + 1 := by
    have : cdI Q = cdI R := by unfold cdI; rw [iQ 20 (by decide)]
    omega
  have lQ : LXI Q := r1.1.of (iQ 2 (by decide)) (iQ 10 (by decide)) (iQ 11 (by decide)) (iQ 12 (by decide)) (iQ 14 (by decide)) (by rw [bQ])
  have cs' := ns.2.1
  rw [p_em 31 (R.i 29) (by omega) (by omega)]
  have cE := EM.cd (u := Q) (o := 31) (x := R.i 29) (by omega) (by omega)
  obtain ⟨E, hE⟩ : ∃ E, E = EM Q 31 (R.i 29) := ⟨_, rfl⟩
  have iE : ∀ j : Nat, j ≠ 20 → E.i j = Q.i j := fun j hj => by rw [hE]; exact EM.i hj
  have aE : ∀ k : Nat, k ≠ 21 → k ≠ 22 → k ≠ 23 → E.a k = Q.a k := fun k q1 q2 q3 => by rw [hE]; exact EM.a q1 q2 q3
  have loE : ∀ k j : Nat, j ≠ (cdI Q).toNat → E.a k j = Q.a k j := fun k j hj => by
    rw [hE]
    by_cases c1 : k = 21
    · rw [c1, EM.a21, if_neg hj]
    by_cases c2 : k = 22
    · rw [c2, EM.a22, if_neg hj]
    by_cases c3 : k = 23
    · rw [c3, EM.a23, if_neg hj]
    · rw [EM.a c1 c2 c3]
  have E21 : E.a 21 (cdI Q).toNat = 31 := by rw [hE, EM.a21, if_pos rfl]
  have E22 : E.a 22 (cdI Q).toNat = R.i 29 := by rw [hE, EM.a22, if_pos rfl]
  have lE : LXI E := by rw [hE]; exact lQ.em
  have bE : E.b = Q.b := by rw [hE]; rfl
  have pr : ((Q.i 20, EM Q 31 (R.i 29)) : Int32 × RS) = (R.i 20, E) := by rw [iQ 20 (by decide), hE]
  rw [pr]
  rw [← hE] at cE
  clear hE pr
  refine ⟨E, rfl, (iE 10 (by decide)).trans (iQ 10 (by decide)), ?_, ?_, fun y => ?_⟩
  · rw [iE 15 (by decide), iQ 15 (by decide)]; exact r1.2.2.1
  · rw [iE 52 (by decide), iQ 52 (by decide)]; exact r4.2.2.1
  obtain ⟨D, hD⟩ : ∃ D, D = RS.setA (RS.setI E 52 (E.i 52 + 1)) 67 t y := ⟨_, rfl⟩
  have iD : ∀ j : Nat, j ≠ 52 → D.i j = E.i j := fun j hj => by rw [hD]; exact if_neg hj
  have D52 : D.i 52 = E.i 52 + 1 := by rw [hD]; rfl
  have bD : D.b = E.b := by rw [hD]; rfl
  have aD : ∀ k : Nat, k ≠ 67 → D.a k = E.a k := fun k hk => by rw [hD]; exact setA_nk hk
  have D67 : D.a 67 t = y := by rw [hD]; exact setA_at
  have D67n : ∀ j : Nat, j ≠ t → D.a 67 j = E.a 67 j := fun j hj => by rw [hD]; exact setA_ne hj
  rw [← hD]
  clear hD
  have iDR : ∀ j : Nat, j ≠ 20 → j ≠ 29 → j ≠ 52 → D.i j = R.i j := fun j q1 q2 q3 => by rw [iD j q3, iE j q1, iQ j q2]
  have cD : cdI D = cdI s + 2 := by
    have : cdI D = cdI E := by unfold cdI; rw [iD 20 (by decide)]
    omega
  have e1 : (1 : Int32).toInt = 1 := by decide
  have tr0 := ns.2.2.2.1
  have tr0' : 0 ≤ (s.i 29).toInt ∧ 6 * (s.i 29).toInt ≤ fr s + 3 * op s := tr0
  have de0 : 0 ≤ (s.i 52).toInt ∧ 4 * (s.i 52).toInt ≤ fr s + 2 * op s + 2 := ns.2.2.2.2.2.2.2.2.1
  have tD : trI D = trI s + 1 := by
    show (D.i 29).toInt = (s.i 29).toInt + 1
    rw [iD 29 (by decide), iE 29 (by decide), Q29, R29, toInt_add] <;> rw [e1] <;> omega
  have d52 : D.i 52 = s.i 52 + 1 := by rw [D52, iE 52 (by decide), iQ 52 (by decide), r4.2.2.1]
  have dD : deI D = deI s + 1 := by
    show (D.i 52).toInt = (s.i 52).toInt + 1
    rw [d52, toInt_add] <;> rw [e1] <;> omega
  have kc := r3.2.1
  have kf := r3.2.2.2.2.2.2.2.2.2.2
  have fD : fr D = fr R := by unfold fr; rw [iDR 11 (by decide) (by decide) (by decide)]
  have tkD : tkI D = tkI R := by unfold tkI; rw [iDR 17 (by decide) (by decide) (by decide)]
  have m1 : (-1 : Int32).toInt = -1 := by decide
  have aDR : ∀ k : Nat, k ≠ 21 → k ≠ 22 → k ≠ 23 → k ≠ 30 → k ≠ 31 → k ≠ 66 → k ≠ 67 → D.a k = R.a k := fun k q1 q2 q3 q4 q5 q6 q7 => by rw [aD k q7, aE k q1 q2 q3, aQ k q6 q4 q5]
  refine ⟨⟨⟨fun j q0 q1 q2 q3 q4 q5 q6 => (iDR j q2 q3 q4).trans (rI j q0 q1 q2 q5), by omega, by omega, by omega, fun k q1 q2 q3 q4 q5 q6 => (aDR k (by omega) (by omega) (by omega) q3 q4 (by omega) (by omega)).trans (r14 k (by omega) (by omega) (by omega) (by omega)), fun k j q1 q2 q3 => ?_, fun j hj => ⟨?_, ?_⟩, ?_, fun j hj => ⟨?_, ?_⟩, fun k j q1 q2 q3 => ?_, by rw [bD, bE, bQ]; exact r3.1.1.2.2⟩, ?_, ⟨?_, d52, ?_⟩, by omega, ⟨?_, ?_, ?_⟩, ?_, ⟨?_, ?_⟩, True.intro, ⟨?_, ?_, D67⟩⟩, ⟨by omega, fun q => absurd q (by omega), by omega, by unfold RATE at r6; omega⟩⟩
  · rw [aD k (by omega), loE k j (by omega), aQ k (by omega) (by omega) (by omega)]
    by_cases c1 : k = 21
    · rw [c1]; exact kc.2.1 j q3
    by_cases c2 : k = 22
    · rw [c2]; exact kc.2.2.1 j q3
    · have c3 : k = 23 := by omega
      rw [c3]; exact kc.2.2.2 j q3
  · rw [aD 30 (by decide), aE 30 (by decide) (by decide) (by decide), n30 j hj, r14 30 (by decide) (by decide) (by decide) (by decide)]
  · rw [aD 31 (by decide), aE 31 (by decide) (by decide) (by decide), n31 j hj, r14 31 (by decide) (by decide) (by decide) (by decide)]
  · unfold gv; rw [aD 30 (by decide), aE 30 (by decide) (by decide) (by decide), Q30]; exact m1
  · rw [aDR 57 (by decide) (by decide) (by decide) (by decide) (by decide) (by decide) (by decide), r14 57 (by decide) (by decide) (by decide) (by decide)]
  · rw [aDR 58 (by decide) (by decide) (by decide) (by decide) (by decide) (by decide) (by decide), r14 58 (by decide) (by decide) (by decide) (by decide)]
  · have hk := kf k q1 q2 j (by omega)
    by_cases c6 : k = 66
    · rw [c6, aD 66 (by decide), aE 66 (by decide) (by decide) (by decide), n66 j (by omega), ← c6]; exact hk
    by_cases c7 : k = 67
    · rw [c7, D67n j (by omega), aE 67 (by decide) (by decide) (by decide), aQ 67 (by decide) (by decide) (by decide), ← c7]; exact hk
    · rw [aDR k (by omega) (by omega) (by omega) (by omega) (by omega) c6 c7]; exact hk
  · exact lE.of (iD 2 (by decide)) (iD 10 (by decide)) (iD 11 (by decide)) (iD 12 (by decide)) (iD 14 (by decide)) (by rw [bD])
  · rw [iDR 19 (by decide) (by decide) (by decide)]; exact r4.1
  · rw [iDR 56 (by decide) (by decide) (by decide)]; exact r4.2.2.2
  · rw [aD 21 (by decide), loE 21 _ (by omega), aQ 21 (by decide) (by decide) (by decide)]; exact r10
  · rw [aD 21 (by decide), ← cQ]; exact E21
  · rw [aD 22 (by decide), ← cQ, E22]; exact R29I
  · unfold gv; rw [aD 31 (by decide), aE 31 (by decide) (by decide) (by decide), Q31]; exact m1
  · rw [aDR 57 (by decide) (by decide) (by decide) (by decide) (by decide) (by decide) (by decide), r14 57 (by decide) (by decide) (by decide) (by decide)]
  · rw [aDR 58 (by decide) (by decide) (by decide) (by decide) (by decide) (by decide) (by decide), r14 58 (by decide) (by decide) (by decide) (by decide)]
  · rw [aDR 64 (by decide) (by decide) (by decide) (by decide) (by decide) (by decide) (by decide)]; exact r11
  · rw [aD 66 (by decide), aE 66 (by decide) (by decide) (by decide), Q66]; exact R29I
end
