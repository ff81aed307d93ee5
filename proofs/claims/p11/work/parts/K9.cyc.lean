/-! reading: try: a catch -/
theorem TRC {N b : Nat} (hN : 1000 ≤ N) (hbk : 1 ≤ b → RUNBW N (b - 1)) {m : Nat} {s w : RS} {t id : Nat} {CL : List Nat} {e : Int} {P : RS → Prop} (hI : INV s) (h9 : t < 996) (hb : 2 * (t : Int) ≤ fr s + 12 * op s + 2) (hc : 900 - fr s ≤ b) (hF : ∀ u, FS' s u → P u) (hid : (id : Int) = trI s) (hw : TI t s id CL e w) (w65 : w.a 65 t = 2) (tok : w.i 10 = 425) (hn : 36000 + 40 ≤ (m : Int) + 40 * fr w) (hC : ∀ (m' : Nat) (w' : RS) (CL' : List Nat), TI t s id CL' e w' → w'.a 65 t = 2 → CL' ≠ [] → fr w + 1 ≤ fr w' → (m : Int) + 40 * fr w + 60 ≤ m' + 40 * fr w' → ok (f_X12_parse_10 N (m' + 1) w') P) : ok (f_X12_parse_10 N (m + 1) w) P := by
  obtain ⟨⟨a1, a2, a3, a4⟩, ⟨b1, b2, b3, b4, b5⟩, ⟨c1, c2⟩, ⟨d1, d2, d3⟩, ⟨e1, e2, e3, e4⟩, ⟨f1, f2, f3⟩, ⟨g1, g2, g3, g4⟩, ⟨h1, h2⟩, k1⟩ := (show TI t s id CL e w from hw)
  have fw := a1.1.f0
  have nw := a1.2.2.2.2
  have ns := hI.2.2.2.2
  have fs := hI.1.f0
  have ibx : ib (w.i 63) 1000 := tp_ib a2 (by omega)
  have nx : (w.i 63).toNatClampNeg = t := tp_nat a2
  refine lp_15 a2 (by omega) a1.2.2.1 e1 ?_
  unfold f_X12_trying
  rw [if_pos ibx, nx, if_neg (by rw [w65]; decide), if_neg (by rw [w65]; decide), if_pos w65, if_pos tok, bind_some]
  refine CATH hN hI (by omega) hF hid hw tok ibx nx (by omega) (fun U NL cat sen hne iU kU pU tU U19 U52 U75 U18 fU tkU raU fcU chU U71 locU => ?_)
  have fUf := iU.1.f0
  have oU : op U = op s := by unfold op; rw [U19, b1]
  have seU := sen.1
  have seW : seI w = seI s := by unfold seI; rw [b5]
  have slU := cat.2.2.2.2.2.2.2.2
  have kslw := a3.2.2.2.2.2.1.2.1
  have nU : SNW s U := by
    have s0 := ns.2.2.2.2.2.1
    refine ⟨by omega, fun x x1 x2 => ?_⟩
    have e : x = (seI w).toNat := by omega
    rw [e, sen.2.2.1]; exact kslw
  refine CALLBW (hbk (by omega)) iU pU tU (by omega) (by omega) (by omega) (by omega) (fun u hu => hF u (FS'.kp kU hu)) (fun m2 v hv hm2 => ?_)
  obtain ⟨v1, v2, v3, v4, v5, v6, v7, v8, v9, v10, v11, v12⟩ := hv
  have fv := v1.1.f0
  have cv := v1.cd
  obtain ⟨m3, rfl⟩ : ∃ m3, m2 = m3 + 1 := ⟨m2 - 1, by omega⟩
  have push2 : ((m3 + 1 : Nat) : Int) = (m3 : Int) + 1 := by omega
  rw [push2] at hm2
  have lv : ∀ k : Nat, 64 ≤ k → k ≤ 73 → k ≠ 65 → k ≠ 71 → k ≠ 72 → v.a k t = w.a k t := fun k q1 q2 q3 q4 q5 => (v12 k q1 q2 q3).trans (locU k q1 q2 q4 q5)
  refine lp_15 v2 (by omega) v1.2.2.1 ((lv 64 (by omega) (by omega) (by omega) (by omega) (by omega)).trans e1) ?_
  unfold f_X12_trying
  rw [if_pos (tp_ib v2 (by omega)), tp_nat v2, if_neg (by rw [v11]; decide), if_neg (by rw [v11]; decide), if_neg (by rw [v11]; decide), if_pos v11]
  have s68 : ∃ r : Int32, (if (v.i 75) = 0 then (if (v.a 68 t) = 1 then f_X12_trying_464 N (RS.setA v 68 t 1) (v.i 63) else f_X12_trying_464 N (RS.setA v 68 t 0) (v.i 63)) else f_X12_trying_464 N (RS.setA v 68 t 1) (v.i 63)) = f_X12_trying_464 N (RS.setA v 68 t r) (v.i 63) ∧ (v.i 75 = 1 → r = 1) ∧ (v.a 68 t = 1 → r = 1) := by
    by_cases c : v.i 75 = 0
    · rw [if_pos c]
      by_cases c' : v.a 68 t = 1
      · rw [if_pos c']; exact ⟨1, rfl, fun _ => rfl, fun _ => rfl⟩
      · rw [if_neg c']; exact ⟨0, rfl, fun q => by rw [c] at q; exact absurd q (by decide), fun q => absurd q c'⟩
    · rw [if_neg c]; exact ⟨1, rfl, fun _ => rfl, fun _ => rfl⟩
  obtain ⟨r, er, hr1, hr2⟩ := s68
  rw [er]
  clear er
  unfold f_X12_trying_464
  obtain ⟨X, hX⟩ : ∃ X, X = RS.setA v 68 t r := ⟨_, rfl⟩
  have iX : X.i = v.i := by rw [hX]; rfl
  have bX : X.b = v.b := by rw [hX]; rfl
  have aX : ∀ k : Nat, k ≠ 68 → X.a k = v.a k := fun k hk => by rw [hX]; exact setA_nk hk
  have X68 : X.a 68 t = r := by rw [hX]; exact setA_at
  have kX : KP t v X := by rw [hX]; exact (KP.rf t v).loc t _ (by omega) (by omega) (Nat.le_refl _)
  have tbX : TBL v X := by rw [hX]; exact TBL.loc v t _ (by omega) (by omega)
  have iiX : INVW X := by rw [hX]; exact v1.loc t _ (by omega) (by omega)
  rw [← hX]
  clear hX
  have cX : cdI X = cdI v := tbX.cd
  rw [if_pos (tp_ib v2 (by omega)), tp_nat v2, p_em 34 (X.a 66 t) (by omega) (by omega)]
  have x71 : X.a 71 t = s.i 38 := by rw [aX 71 (by decide), v12 71 (by omega) (by omega) (by omega), U71, b5]
  obtain ⟨E, hE⟩ : ∃ E, E = EM X 34 (X.a 66 t) := ⟨_, rfl⟩
  have iE : ∀ j : Nat, j ≠ 20 → E.i j = v.i j := fun j hj => by rw [hE, ← iX]; exact EM.i hj
  have aE : ∀ k : Nat, k ≠ 21 → k ≠ 22 → k ≠ 23 → E.a k = X.a k := fun k q1 q2 q3 => by rw [hE]; exact EM.a q1 q2 q3
  have cE : cdI E = cdI v + 1 := by rw [hE, EM.cd (by omega) (by omega), cX]
  have E21 : E.a 21 (cdI v).toNat = 34 := by rw [hE, EM.a21, if_pos (by rw [cX])]
  have bE : E.b = v.b := by rw [hE]; exact bX
  have kE : KP t v E := by rw [hE]; exact kX.em cv.1 (by omega)
  have tabE : TAB E := by rw [hE]; exact iiX.2.2.2.1.em (by omega) (by omega)
  show ok (f_X12_parse_10 N m3 (RS.setA (RS.setI (EM X 34 (X.a 66 t)) 38 ((EM X 34 (X.a 66 t)).a 71 t)) 65 t 2)) P
  rw [← hE, aE 71 (by decide) (by decide) (by decide), x71]
  clear hE
  obtain ⟨w', hw'⟩ : ∃ w', w' = RS.setA (RS.setI E 38 (s.i 38)) 65 t 2 := ⟨_, rfl⟩
  have wi : ∀ j : Nat, j ≠ 38 → w'.i j = E.i j := fun j hj => by rw [hw']; exact if_neg hj
  have w38 : w'.i 38 = s.i 38 := by rw [hw']; rfl
  have wa : ∀ k : Nat, k ≠ 65 → w'.a k = E.a k := fun k hk => by rw [hw', setA_nk hk]; rfl
  have w65' : w'.a 65 t = 2 := by rw [hw']; exact setA_at
  have wb : w'.b = v.b := by rw [hw']; exact bE
  have tbw : TBS E w' := by rw [hw']; exact (TBS.i38 E _).tr (TBL.loc _ t _ (by omega) (by omega)).tbs
  have wbel : ∀ k : Nat, 64 ≤ k → k ≤ 73 → bel k t E w' := fun k _ _ j hj => by rw [hw', setA_ne (by omega)]; rfl
  have kw38 : KP t v (w'.setI 38 (v.i 38)) := by
    refine kE.tbs (W := w'.setI 38 (v.i 38)) (tbw.tr (TBS.i38 _ _)) (Int.le_refl _) (fun z => ?_) wbel
    show 0 ≤ w'.i 18
    rw [wi 18 (by decide)]; exact z
  rw [← hw']
  clear hw'
  have wv : ∀ j : Nat, j ≠ 20 → j ≠ 38 → w'.i j = v.i j := fun j q1 q2 => (wi j q2).trans (iE j q1)
  have wav : ∀ k : Nat, k ≠ 21 → k ≠ 22 → k ≠ 23 → k ≠ 65 → k ≠ 68 → w'.a k = v.a k := fun k q1 q2 q3 q4 q5 => (wa k q4).trans ((aE k q1 q2 q3).trans (aX k q5))
  have ksE : KP t s E := (kU.tr v3 (Nat.le_refl _)).tr kE (Nat.le_refl _)
  have sew : seI w' = seI s := by unfold seI; rw [w38]
  have kw : KP t s w' := ksE.tbs tbw (by omega) (fun z => by rw [wi 18 (by decide)]; exact z) wbel
  have fw' : fr w' = fr v := by unfold fr; rw [wv 11 (by decide) (by decide)]
  have tkw' : tkI w' = tkI v := by unfold tkI; rw [wv 17 (by decide) (by decide)]
  have cw' : cdI w' = cdI v + 1 := by rw [tbw.cd]; exact cE
  have q2 : enI w' = enI v := by unfold enI; rw [wv 24 (by decide) (by decide)]
  have q3 : trI w' = trI v := by unfold trI; rw [wv 29 (by decide) (by decide)]
  have q4 : caI w' = caI v := by unfold caI; rw [wv 33 (by decide) (by decide)]
  have q6 : slI w' = slI v := by unfold slI; rw [wv 42 (by decide) (by decide)]
  have q7 : goI w' = goI v := by unfold goI; rw [wv 43 (by decide) (by decide)]
  have q8 : deI w' = deI v := by unfold deI; rw [wv 52 (by decide) (by decide)]
  have q9 : waI w' = waI v := by unfold waI; rw [wv 56 (by decide) (by decide)]
  have q10 : peI w' = peI v := by unfold peI; rw [wv 59 (by decide) (by decide)]
  have q1 : op w' = op v := by unfold op; rw [wv 19 (by decide) (by decide)]
  have seE : seI E = seI v := by unfold seI; rw [iE 38 (by decide)]
  have seV : seI v = seI U := by unfold seI; rw [v6]
  have tab' : TAB w' := tabE.tbs tbw (by omega) (wi 52 (by decide)) (by rw [wv 75 (by decide) (by decide)]; exact v1.r)
  have nv := v1.2.2.2.2
  have s0 := ns.2.2.2.2.2.1
  have ii' : INVW w' := by
    refine ⟨v1.1.of (wv 2 (by decide) (by decide)) (wv 10 (by decide) (by decide)) (wv 11 (by decide) (by decide)) (wv 12 (by decide) (by decide)) (wv 14 (by decide) (by decide)) (by rw [wb]), hI.2.1.kp kw, (wv 15 (by decide) (by decide)).trans v1.2.2.1, tab', ?_⟩
    have ksl := kw.2.2.2.2.2.1.2.1
    unfold RATE at v5
    unfold RATN at raU d1
    have hcd := cat.cd
    have ns1 := ns.2.1
    unfold NUMW at nv ⊢
    rw [q1, cw', q2, q3, q4, sew, q6, q7, q8, q9, q10, fw', tkw']
    omega
  have kU38 : KP t U (w'.setI 38 (v.i 38)) := v3.tr kw38 (Nat.le_refl _)
  have e1' : (1 : Int32).toInt = 1 := by decide
  have des := ns.2.2.2.2.2.2.2.2.1
  have hop := hI.op
  have dU : deI U = deI s + 1 := by
    have h0 : 0 ≤ (s.i 52).toInt := des.1
    have h4 : 4 * (s.i 52).toInt ≤ fr s + 2 * op s + 2 := des.2
    unfold deI
    rw [U52, b3, toInt_add] <;> rw [e1'] <;> omega
  have nU' := iU.2.2.2.2
  have gU : goI U = goI s := by rw [cat.go]; unfold goI; rw [b2]
  have caU := cat.2.2.2.2.2.1
  have trU : trI U = trI w := by unfold trI; rw [cat.1 29 (by omega) (by omega) (by omega) (by omega) (by omega)]
  have waU : waI U = waI w := by unfold waI; rw [cat.1 56 (by omega) (by omega) (by omega) (by omega) (by omega)]
  have cdU := cat.cd
  have caw := a3.2.2.2.2.1.1
  have ws0 := ns.2.2.2.2.2.2.2.2.2.1
  have ca' : ∀ k : Nat, k < 64 → k ≠ 30 → ¬ (34 ≤ k ∧ k ≤ 37) → k ≠ 40 → k ≠ 41 → U.a k = w.a k := cat.2.1
  have g57 : ∀ k : Nat, k = 57 ∨ k = 58 → gv w' k (waI s).toNat = gv w k (waI s).toNat := fun k hk => by
    have hlt : (((waI s).toNat : Nat) : Int) < waI U := by omega
    have kq := v3.2.2.2.2.2.2.2.2.1
    have e9 : v.a k (waI s).toNat = U.a k (waI s).toNat := by
      rcases hk with q | q
      · subst q; exact kq.2.1 _ hlt
      · subst q; exact kq.2.2 _ hlt
    unfold gv
    rw [wav k (by omega) (by omega) (by omega) (by omega) (by omega), e9, ca' k (by omega) (by omega) (by omega) (by omega) (by omega)]
  have w21s : ∀ k : Nat, (k : Int) < cdI U → w'.a 21 k = w.a 21 k ∧ w'.a 22 k = w.a 22 k := fun k hk => by
    have h21 : w'.a 21 k = U.a 21 k := kU38.2.1.2.1 k hk
    have h22 : w'.a 22 k = U.a 22 k := kU38.2.1.2.2.1 k hk
    exact ⟨by rw [h21, ca' 21 (by omega) (by omega) (by omega) (by omega) (by omega)], by rw [h22, ca' 22 (by omega) (by omega) (by omega) (by omega) (by omega)]⟩
  have w3x : ∀ j : Nat, (j : Int) < trI U → w'.a 30 j = U.a 30 j ∧ w'.a 31 j = U.a 31 j := fun j hj => ⟨kU38.2.2.2.1.2.1 j hj, kU38.2.2.2.1.2.2.1 j hj⟩
  have w35 : ∀ j : Nat, (j : Int) < caI U → w'.a 35 j = U.a 35 j ∧ w'.a 37 j = U.a 37 j := fun j hj => ⟨kU38.2.2.2.2.1.2.2.1 j hj, kU38.2.2.2.2.1.2.2.2.2.1 j hj⟩
  have mem : ∀ j ∈ CL ++ NL, (j : Int) < caI U := fun j hj => by
    rcases List.mem_append.mp hj with q | q
    · have := (g4 j q).2.1; omega
    · exact (cat.2.2.2.2.2.2.1 j q).2
  have idU : (id : Int) < trI U := by omega
  have caV := v3.2.2.2.2.1.1
  have w68 : w'.a 68 t = r := by rw [wa 68 (by decide), aE 68 (by decide) (by decide) (by decide)]; exact X68
  unfold RATE at v5
  unfold RATN at d1
  obtain ⟨m4, rfl⟩ : ∃ m4, m3 = m4 + 1 := ⟨m3 - 1, by omega⟩
  have push4 : ((m4 + 1 : Nat) : Int) = (m4 : Int) + 1 := by omega
  rw [push4] at hm2
  have les := a3.2.1.1
  have cs0 := ns.2.1
  have trv := v3.2.2.2.1.1
  have cdv := v3.2.1.1
  refine hC m4 w' (CL ++ NL) ⟨⟨ii', by unfold tpI; rw [wv 63 (by decide) (by decide)]; exact v2, kw, (pU.kp kU38 (by show goI w' = goI U; rw [q7]; exact v4.go) : PRL (w'.setI 38 (v.i 38)))⟩, ⟨by rw [wv 19 (by decide) (by decide), v4.1, U19]; exact b1, by rw [wv 43 (by decide) (by decide), v4.2.1, cat.1 43 (by omega) (by omega) (by omega) (by omega) (by omega)]; exact b2, by rw [wv 52 (by decide) (by decide), v4.2.2.1, U52]; exact b3, by rw [q9, v4.wa, waU]; exact b4, w38⟩, ⟨by rw [g57 57 (Or.inl rfl)]; exact c1, by rw [g57 58 (Or.inr rfl)]; exact c2⟩, ⟨?_, by omega, by omega⟩, ⟨?_, ?_, ?_, fun _ => by rw [q3, fw']; omega⟩, ⟨by rw [(w21s _ (by omega)).1]; exact f1, by rw [(w21s _ (by omega)).1]; exact f2, by rw [(w21s _ (by omega)).2]; exact f3⟩, ⟨by rw [q3]; omega, ?_, ?_, fun j hj => ?_⟩, ⟨h1, by omega⟩, fun z => ?_⟩ w65' ?_ (by omega) (by omega)
  · unfold RATN
    rw [cw', q2, q3, q4, q6, q10, fw', tkw']
    have sl' : slI U = slI w + 1 := slU
    have en' : enI U = enI w := by unfold enI; rw [cat.1 24 (by omega) (by omega) (by omega) (by omega) (by omega)]
    have pe' : peI U = peI w := by unfold peI; rw [cat.1 59 (by omega) (by omega) (by omega) (by omega) (by omega)]
    unfold RATN at raU
    omega
  · rw [wav 64 (by decide) (by decide) (by decide) (by decide) (by decide), lv 64 (by omega) (by omega) (by omega) (by omega) (by omega)]; exact e1
  · rw [wav 66 (by decide) (by decide) (by decide) (by decide) (by decide), lv 66 (by omega) (by omega) (by omega) (by omega) (by omega)]; exact e2
  · unfold FC at fcU ⊢
    rw [wav 72 (by decide) (by decide) (by decide) (by decide) (by decide), v12 72 (by omega) (by omega) (by omega)]; exact fcU
  · unfold gv
    rw [(w3x id idU).2, ca' 31 (by omega) (by omega) (by omega) (by omega) (by omega)]
    exact g2
  · have e30 : gv w' 30 id = gv U 30 id := by unfold gv; rw [(w3x id idU).1]
    rw [e30]
    exact chU.of (fun j hj => by unfold gv; rw [(w35 j (mem j hj)).2])
  · have jm := mem j hj
    have e35 : gv w' 35 j = gv U 35 j := by unfold gv; rw [(w35 j jm).1]
    rw [e35]
    rcases List.mem_append.mp hj with q | q
    · obtain ⟨j1, j2, j3⟩ := g4 j q
      have e : gv U 35 j = gv w 35 j := by unfold gv; rw [cat.2.2.2.1 35 j (by omega) (by omega) j2]
      rw [e]
      exact ⟨j1, by omega, j3⟩
    · obtain ⟨j1, j2⟩ := cat.2.2.2.2.2.2.1 j q
      have e := (cat.2.2.2.2.2.2.2.1 j j1 j2).2.1
      rw [e]
      exact ⟨by omega, by omega, h2⟩
  · have z1 : ¬ 0 ≤ v.i 18 := fun q => z (by rw [wv 18 (by decide) (by decide)]; exact q)
    have zw : ¬ 0 ≤ w.i 18 := fun q => z1 (v3.1.2 (U18 q))
    exact (k1 zw).catch hI a1 a3 cat iU kU nU (v10 z1) v3 v4 v1 kw38 (wv 43 (by decide) (by decide)) (wv 56 (by decide) (by decide)) cw' (by rw [wa 21 (by decide)]; exact E21) dU gU (by omega) fUf.2 (by have := nU'.2.2.2.2.2.2.2.2.1; have := nU'.1; omega) idU (fun j hj => (g4 j hj).2.1) h2 (fun q => by rw [w68]; exact hr1 q) (fun q => by rw [w68]; exact hr2 (by rw [lv 68 (by omega) (by omega) (by omega) (by omega) (by omega)]; exact q))
  · intro q
    have := List.append_eq_nil_iff.mp q
    exact hne this.2
