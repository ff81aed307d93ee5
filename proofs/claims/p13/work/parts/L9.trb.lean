section
/-! reading: try: body, the whole -/
theorem TRB {N b : Nat} (hN : 1000 ≤ N) (hbk : 1 ≤ b → RUNBW N (b - 1)) {n n' : Nat} {s σ X : RS} {t id : Nat} {P : RS → Prop} {y : Int32} (hI : INV s) (hp : PRL s) (ht : tpI s = t) (h9 : t < 996) (hb : 2 * (t : Int) ≤ fr s + 12 * op s + 2) (hc : 900 - fr s ≤ b) (hn : 36000 + 29 ≤ (n : Int) + 1 + 40 * fr s) (n1 : 1 ≤ n) (hF : ∀ u, FS' s u → P u) (hC : ∀ (m : Nat) (u : RS), PS t s u → fr s + 1 ≤ fr u → (n : Int) + 1 + 40 * fr s + 11 ≤ m + 40 * fr u → ok (f_X12_parse_10 N m u) P) (hid : (id : Int) = trI s) (hσ : HL t id s n' y σ) (gσ : σ.i 15 = 0 → HG s n' σ ∧ (y = 1 → 1 ≤ n')) (hX : HST t id s X) (xi : ∀ j : Nat, j ≠ 56 → X.i j = σ.i j) (xw : waI X = waI s + 1) (xb : X.b = σ.b) (g57 : gv X 57 (waI s).toNat = id) (g58 : gv X 58 (waI s).toNat = goI s) (xa : ∀ k : Nat, k ≠ 57 → k ≠ 58 → k ≠ 72 → X.a k = σ.a k) (x72 : X.a 72 t = -1) : ok (f_X12_parse_10 N n (TH X t 1 3)) P := by
  obtain ⟨a1, a2, ⟨a3, a4, a5⟩, a6, a7, a8, a9, a10, a11⟩ := hσ
  have ns := hI.2.2.2.2
  have fs := hI.1.f0
  have hop := hI.op
  have cs := hI.cd
  have kX : KP t s X := KP.hst hX hid (by omega)
  have X75 : X.i 75 = s.i 75 := hX.ix (by omega) (by decide) (by decide) (by decide) (by decide) (by decide) (by decide)
  by_cases c15 : X.i 15 = 0
  case neg => exact lp_f (u := TH X t 1 3) c15 (hF _ (FS'.th ⟨c15, kX.1.1, by rw [X75]; exact hI.r⟩)) n1
  obtain ⟨⟨g1, g2, g3, g4⟩, g5⟩ := gσ (by rw [← xi 15 (by decide)]; exact c15)
  have tabX : TAB X := hI.2.2.2.1.hst hX hid ns.2.2.2.2.1.1 ns.2.2.2.2.2.2.2.2.2.1.1 ns.2.2.2.2.2.2.2.1.1 xw g57 g58
  have lX : LXI X := a2.of (xi 2 (by decide)) (xi 10 (by decide)) (xi 11 (by decide)) (xi 12 (by decide)) (xi 14 (by decide)) (by rw [xb])
  have fX : fr X = fr σ := by unfold fr; rw [xi 11 (by decide)]
  have tkX : tkI X = tkI σ := by unfold tkI; rw [xi 17 (by decide)]
  have X19 : X.i 19 = s.i 19 := (xi 19 (by decide)).trans a3
  have X52 : X.i 52 = s.i 52 + 1 := (xi 52 (by decide)).trans a4
  have e2 : enI X = enI s := by unfold enI; rw [hX.ix (by omega) (by decide) (by decide) (by decide) (by decide) (by decide) (by decide)]
  have e3 := hX.2.2.1
  have e4 : caI X = caI s := by unfold caI; rw [hX.ix (by omega) (by decide) (by decide) (by decide) (by decide) (by decide) (by decide)]
  have X38 : X.i 38 = s.i 38 := hX.ix (by omega) (by decide) (by decide) (by decide) (by decide) (by decide) (by decide)
  have e5 : seI X = seI s := by unfold seI; rw [X38]
  have e6 : slI X = slI s := by unfold slI; rw [hX.ix (by omega) (by decide) (by decide) (by decide) (by decide) (by decide) (by decide)]
  have X43 : X.i 43 = s.i 43 := hX.ix (by omega) (by decide) (by decide) (by decide) (by decide) (by decide) (by decide)
  have e7 : goI X = goI s := by unfold goI; rw [X43]
  have e10 : peI X = peI s := by unfold peI; rw [hX.ix (by omega) (by decide) (by decide) (by decide) (by decide) (by decide) (by decide)]
  have cX : cdI X = cdI s + 2 + n' := by rw [← a6]; unfold cdI; rw [xi 20 (by decide)]
  have e1' : (1 : Int32).toInt = 1 := by decide
  have de0 : 0 ≤ (s.i 52).toInt ∧ 4 * (s.i 52).toInt ≤ fr s + 2 * op s + 2 := ns.2.2.2.2.2.2.2.2.1
  have des := ns.2.2.2.2.2.2.2.2.1
  have dX : deI X = deI s + 1 := by
    show (X.i 52).toInt = (s.i 52).toInt + 1
    rw [X52, toInt_add] <;> rw [e1'] <;> omega
  have oX := op_of X19
  have iX : INVW X := by
    refine ⟨lX, hI.2.1.kp kX, c15, tabX, ?_⟩
    unfold NUM at ns
    unfold NUMW
    rw [oX, cX, e2, e3, e4, e5, e6, e7, dX, xw, e10, fX, tkX]
    omega
  have tX : tpI X = t := by
    unfold tpI
    rw [hX.ix (j := 63) (by omega) (by decide) (by decide) (by decide) (by decide) (by decide) (by decide)]
    exact ht
  have pX : PRL X := hp.kp kX e7
  have fXf := lX.f0
  refine CALLBW (hbk (by omega)) iX pX tX (by omega) (by omega) (by omega) (by omega) (fun u hu => hF u (FS'.kp kX hu)) (fun m2 v hv hm2 => ?_)
  obtain ⟨v1, v2, v3, v4, v5, v6, v7, v8, v9, v10, v11, v12⟩ := hv
  have fv := v1.1.f0
  have cv := v1.cd
  obtain ⟨m3, rfl⟩ : ∃ m3, m2 = m3 + 1 := ⟨m2 - 1, by omega⟩
  have push2 : ((m3 + 1 : Nat) : Int) = (m3 : Int) + 1 := by omega
  rw [push2] at hm2
  have lv : ∀ k : Nat, 64 ≤ k → k ≤ 73 → k ≠ 65 → k ≠ 72 → v.a k t = σ.a k t := fun k q1 q2 q3 q4 => by rw [v12 k q1 q2 q3, xa k (by omega) (by omega) q4]
  refine lp_15 v2 (by omega) v1.2.2.1 ((lv 64 (by omega) (by omega) (by omega) (by omega)).trans a11.1) ?_
  unfold f_X12_trying
  rw [if_pos (tp_ib v2 (by omega)), tp_nat v2, if_neg (by rw [v11]; decide), if_pos v11]
  have s68 : ∃ r : Int32, (if (v.i 75) = 0 then f_X12_trying_287 N (RS.setA v 68 t 0) (v.i 63) else f_X12_trying_287 N (RS.setA v 68 t 1) (v.i 63)) = f_X12_trying_287 N (RS.setA v 68 t r) (v.i 63) ∧ (v.i 75 = 1 → r = 1) := by
    by_cases c : v.i 75 = 0
    · rw [if_pos c]; exact ⟨0, rfl, fun q => by rw [c] at q; exact absurd q (by decide)⟩
    · rw [if_neg c]; exact ⟨1, rfl, fun _ => rfl⟩
  obtain ⟨r, er, hr1⟩ := s68
  rw [er]
  clear er
  unfold f_X12_trying_287
  obtain ⟨Y, hY⟩ : ∃ Y, Y = RS.setA v 68 t r := ⟨_, rfl⟩
  have iY : Y.i = v.i := by rw [hY]; rfl
  have bY : Y.b = v.b := by rw [hY]; rfl
  have aY : ∀ k : Nat, k ≠ 68 → Y.a k = v.a k := fun k hk => by rw [hY]; exact setA_nk hk
  have Y68 : Y.a 68 t = r := by rw [hY]; exact setA_at
  have kY : KP t v Y := by rw [hY]; exact (KP.rf t v).loc t _ (by omega) (by omega) (Nat.le_refl _)
  have tbY : TBL v Y := by rw [hY]; exact TBL.loc v t _ (by omega) (by omega)
  have iiY : INVW Y := by rw [hY]; exact v1.loc t _ (by omega) (by omega)
  rw [← hY]
  clear hY
  have cY : cdI Y = cdI v := tbY.cd
  rw [if_pos (tp_ib v2 (by omega)), tp_nat v2, p_em 33 (Y.a 66 t) (by omega) (by omega)]
  obtain ⟨E, hE⟩ : ∃ E, E = EM Y 33 (Y.a 66 t) := ⟨_, rfl⟩
  have iE : ∀ j : Nat, j ≠ 20 → E.i j = v.i j := fun j hj => by rw [hE, ← iY]; exact EM.i hj
  have aE : ∀ k : Nat, k ≠ 21 → k ≠ 22 → k ≠ 23 → E.a k = Y.a k := fun k q1 q2 q3 => by rw [hE]; exact EM.a q1 q2 q3
  have cE : cdI E = cdI v + 1 := by rw [hE, EM.cd (by omega) (by omega), cY]
  have E21 : E.a 21 (cdI v).toNat = 33 := by rw [hE, EM.a21, if_pos (by rw [cY])]
  have bE : E.b = v.b := by rw [hE]; exact bY
  have kE : KP t v E := by rw [hE]; exact kY.em cv.1 (by omega)
  have tabE : TAB E := by rw [hE]; exact iiY.2.2.2.1.em (by omega) (by omega)
  have lE : LXI E := by rw [hE]; exact iiY.1.em
  show ok (f_X12_parse_10 N m3 (RS.setA (EM Y 33 (Y.a 66 t)) 65 t 2)) P
  rw [← hE]
  clear hE
  obtain ⟨w, hw⟩ : ∃ w, w = RS.setA E 65 t 2 := ⟨_, rfl⟩
  have wiE : w.i = E.i := by rw [hw]; rfl
  have wa : ∀ k : Nat, k ≠ 65 → w.a k = E.a k := fun k hk => by rw [hw, setA_nk hk]
  have w65 : w.a 65 t = 2 := by rw [hw]; exact setA_at
  have wb : w.b = v.b := by rw [hw]; exact bE
  have tbw : TBL E w := by rw [hw]; exact TBL.loc E t _ (by omega) (by omega)
  have kw : KP t v w := by rw [hw]; exact kE.loc t _ (by omega) (by omega) (Nat.le_refl _)
  have lw : LXI w := by rw [hw]; exact lE.sA 65 t 2
  rw [← hw]
  clear hw
  have wv : ∀ j : Nat, j ≠ 20 → w.i j = v.i j := fun j q1 => by rw [wiE]; exact iE j q1
  have wav : ∀ k : Nat, k ≠ 21 → k ≠ 22 → k ≠ 23 → k ≠ 65 → k ≠ 68 → w.a k = v.a k := fun k q1 q2 q3 q4 q5 => (wa k q4).trans ((aE k q1 q2 q3).trans (aY k q5))
  have ksv : KP t s v := kX.tr v3 (Nat.le_refl _)
  have ksw : KP t s w := ksv.tr kw (Nat.le_refl _)
  have sw : SAME v w := ⟨wv 19 (by decide), wv 43 (by decide), wv 52 (by decide), wv 56 (by decide)⟩
  have fw' : fr w = fr v := by unfold fr; rw [wv 11 (by decide)]
  have tkw' : tkI w = tkI v := by unfold tkI; rw [wv 17 (by decide)]
  have cw' : cdI w = cdI v + 1 := by rw [tbw.cd]; exact cE
  have q1 : op w = op v := op_of (wv 19 (by decide))
  have q2 : enI w = enI v := by unfold enI; rw [wv 24 (by decide)]
  have q3 : trI w = trI v := by unfold trI; rw [wv 29 (by decide)]
  have q4 : caI w = caI v := by unfold caI; rw [wv 33 (by decide)]
  have q5 : seI w = seI v := by unfold seI; rw [wv 38 (by decide)]
  have q6 : slI w = slI v := by unfold slI; rw [wv 42 (by decide)]
  have q7 : goI w = goI v := by unfold goI; rw [wv 43 (by decide)]
  have q8 : deI w = deI v := by unfold deI; rw [wv 52 (by decide)]
  have q9 : waI w = waI v := by unfold waI; rw [wv 56 (by decide)]
  have q10 : peI w = peI v := by unfold peI; rw [wv 59 (by decide)]
  have tabw : TAB w := tabE.tbl tbw (fun γ hγ => by
    have := (tabE.2.2.2.2.2.2.1 γ hγ).2
    have e : deI w = deI E := by unfold deI; rw [wiE]
    omega) (by rw [wv 75 (by decide)]; exact v1.r)
  have nv := v1.2.2.2.2
  have nX := iX.2.2.2.2
  have v5' := v5
  unfold RATE at v5'
  have iw : INVW w := by
    refine ⟨lw, hI.2.1.kp ksw, (wv 15 (by decide)).trans v1.2.2.1, tabw, ?_⟩
    have ns1 := ns.2.1
    unfold NUMW at nv ⊢
    rw [q1, cw', q2, q3, q4, q5, q6, q7, q8, q9, q10, fw', tkw']
    omega
  have kv := v3.2.1
  have kq := v3.2.2.2.2.2.2.2.2.1
  have kt := v3.2.2.2.1
  have ws0 := ns.2.2.2.2.2.2.2.2.2.1
  have g57w : ∀ k : Nat, k = 57 ∨ k = 58 → gv w k (waI s).toNat = gv X k (waI s).toNat := fun k hk => by
    have hlt : (((waI s).toNat : Nat) : Int) < waI X := by omega
    have e9 : v.a k (waI s).toNat = X.a k (waI s).toNat := by
      rcases hk with q | q
      · subst q; exact kq.2.1 _ hlt
      · subst q; exact kq.2.2 _ hlt
    unfold gv
    rw [wav k (by omega) (by omega) (by omega) (by omega) (by omega), e9]
  have kXw : KP t X w := v3.tr kw (Nat.le_refl _)
  have low : ∀ k : Nat, (k : Int) < cdI X → w.a 21 k = σ.a 21 k ∧ w.a 22 k = σ.a 22 k := fun k hk => ⟨by rw [kXw.2.1.2.1 k hk, xa 21 (by decide) (by decide) (by decide)], by rw [kXw.2.1.2.2.1 k hk, xa 22 (by decide) (by decide) (by decide)]⟩
  have idX : (id : Int) < trI X := by omega
  have w30 : gv w 30 id = -1 := by
    have := hX.2.2.2.2.2.2.2.1
    unfold gv at this ⊢
    rw [kXw.2.2.2.1.2.1 id idX]; exact this
  have w31 : gv w 31 id = -1 := by
    unfold gv at a8 ⊢
    rw [kXw.2.2.2.1.2.2.1 id idX, xa 31 (by decide) (by decide) (by decide)]; exact a8
  have opsw : OPS n' w (cdI s + 2) := a10.of (by omega) (fun k k1 k2 _ => low k (by omega))
  have w68 : w.a 68 t = r := by rw [wa 68 (by decide), aE 68 (by decide) (by decide) (by decide)]; exact Y68
  have hti : TI t s id [] (cdI w) w := by
    refine ⟨⟨iw, by unfold tpI; rw [wv 63 (by decide)]; exact v2, ksw, pX.kp kXw (by rw [q7]; exact v4.go)⟩, ⟨by rw [wv 19 (by decide), v4.1]; exact X19, by rw [wv 43 (by decide), v4.2.1]; exact X43, by rw [wv 52 (by decide), v4.2.2.1]; exact X52, by rw [q9, v4.wa]; exact xw, by rw [wv 38 (by decide), v6]; exact X38⟩, ⟨by rw [g57w 57 (Or.inl rfl)]; exact g57, by rw [g57w 58 (Or.inr rfl)]; exact g58⟩, ⟨?_, by omega, by omega⟩, ⟨?_, ?_, Or.inl ⟨rfl, ?_⟩, fun h67 => ?_⟩, ⟨by rw [(low _ (by omega)).1]; exact a7.1, by rw [(low _ (by omega)).1]; exact a7.2.1, by rw [(low _ (by omega)).2]; exact a7.2.2⟩, ⟨by rw [q3]; have := kt.1; omega, w31, by rw [w30]; show (-1 : Int) < 0; omega, fun j hj => absurd hj List.not_mem_nil⟩, ⟨by have := kv.1; omega, Int.le_refl _⟩, fun z => ?_⟩
    · unfold RATN
      rw [cw', q2, q3, q4, q6, q10, fw', tkw']
      omega
    · rw [wav 64 (by decide) (by decide) (by decide) (by decide) (by decide), lv 64 (by omega) (by omega) (by omega) (by omega)]; exact a11.1
    · rw [wav 66 (by decide) (by decide) (by decide) (by decide) (by decide), lv 66 (by omega) (by omega) (by omega) (by omega)]; exact a11.2.1
    · rw [wav 72 (by decide) (by decide) (by decide) (by decide) (by decide), v12 72 (by omega) (by omega) (by omega), x72]; decide
    · have h1 : w.a 67 t = 1 := by
        rcases h67 with q | q
        · exact q
        · exact absurd rfl q
      rw [wav 67 (by decide) (by decide) (by decide) (by decide) (by decide), lv 67 (by omega) (by omega) (by omega) (by omega), a11.2.2] at h1
      have := g5 h1
      have := g2 (by omega)
      rw [q3, fw']
      omega
    · have z1 : ¬ 0 ≤ v.i 18 := fun q => z (by rw [wv 18 (by decide)]; exact q)
      refine (TRX.body hI kX (by omega) (by omega) cX opsw (v10 z1) v3 v4 v1 kw sw cw' (by rw [wa 21 (by decide)]; exact E21) X38 dX e7 (by omega) (by omega) (by omega) idX).mono (fun q => ?_)
      rw [w68]; exact hr1 q
  obtain ⟨m4, rfl⟩ : ∃ m4, m3 = m4 + 1 := ⟨m3 - 1, by omega⟩
  have push4 : ((m4 + 1 : Nat) : Int) = (m4 : Int) + 1 := by omega
  rw [push4] at hm2
  exact TRL (B0 := (n : Int) + 1 + 40 * fr s + 11) hN hbk hI h9 hb hc hF hid hC 1000 m4 [] w hti w65 (by omega) (by omega) (by omega)
theorem run_try {N b : Nat} (hN : 1000 ≤ N) (hbk : 1 ≤ b → RUNBW N (b - 1)) : RUNU N b 15 (fun x => x = 423) := by
  intro n s u t P hI hp ht hu tu u15 hT hz h9 hb hc hn n1 hF hC
  have hf := hI.1.f0
  have hop := hI.op
  have ns := hI.2.2.2.2
  refine lp_15 tu (by omega) u15 hu.2.2.2.2.2.2.1 ?_
  unfold f_X12_trying
  rw [if_pos (tp_ib tu (by omega)), tp_nat tu, if_pos hu.2.2.2.2.2.2.2.1]
  obtain ⟨R, eR, hR, xR⟩ := STA hN hI ht hz hu
  rw [eR]
  clear eR
  show ok ((if ib (R.i 29) 200 then (f_X12_emit N (RS.setI (RS.setA (RS.setA (RS.setA R 66 t (R.i 29)) 30 (((R.i 29) : Int32).toNatClampNeg) (-1)) 31 (((R.i 29) : Int32).toNatClampNeg) (-1)) 29 ((R.i 29) + 1)) 31 ((upd (R.a 66) t (R.i 29)) t)).bind fun p6 => (if (p6.2.i 10) = 424 then f_X12_trying_124 N (RS.setA (RS.setI p6.2 52 ((p6.2.i 52) + 1)) 67 t 1) (u.i 63) else f_X12_trying_124 N (RS.setA (RS.setI p6.2 52 ((p6.2.i 52) + 1)) 67 t 0) (u.i 63)) else none : Option RS).bind fun p => f_X12_parse_10 N n p) P
  obtain ⟨id, hid⟩ : ∃ id : Nat, (id : Int) = trI s := ⟨(trI s).toNat, by have := ns.2.2.2.1; omega⟩
  have rI : ∀ j : Nat, (j < 10 ∨ 18 ≤ j) → j ≠ 19 → j ≠ 20 → j ≠ 53 → R.i j = s.i j := fun j q0 q1 q2 q3 => (xR.2.2.1 j q0 q1).trans (hu.2.1 j q2 q3)
  have R29I : (R.i 29).toInt = (id : Int) := by rw [rI 29 (by omega) (by decide) (by decide) (by decide), hid]; rfl
  have id2 := ns.2.2.2.1
  rw [if_pos (show ib (R.i 29) 200 from ⟨by omega, by omega⟩), k_nat R29I]
  have eU : upd (R.a 66) t (R.i 29) t = R.i 29 := if_pos rfl
  rw [eU]
  have f2 := hR.2.2.2.2.2.2.2.2.2.2.2.2.1 (by rw [hT]; decide)
  obtain ⟨E, eE, E10, E15, E52, hD⟩ := p_try0 (N := N) hI ht h9 hid rI hR f2
  rw [eE]
  clear eE
  have hpl : PRL s := hp.prl (by rw [hT]; decide)
  have fin : ∀ (y x2 : Int32), (x2 = 0 ∨ x2 = 1) → (y = 1 → x2 = 1) → (x2 = 1 → E.i 10 = 424) → ok ((f_X12_trying_140 N N (RS.setA (RS.setI E 52 (E.i 52 + 1)) 67 t y) (u.i 63) x2).bind fun p => f_X12_parse_10 N n p) P := fun y x2 h1 h2 h3 => by
    obtain ⟨hL, hG⟩ := hD y
    have fL := hL.2.1.f0
    obtain ⟨σ, n', eσ, hσ, gσ⟩ := p_t140 hN (x1 := u.i 63) hI N _ x2 0 hL h1 (fun _ => ⟨hG, fun q => ⟨Or.inl (h3 q), fun _ => h3 q⟩, fun q q' => by rw [h2 q'] at q; exact absurd q (by decide)⟩) (by omega)
    rw [eσ]
    clear eσ
    obtain ⟨X, eX, y1, y2, y3, y4, y5, y6, y7, y8⟩ := p_t215 (N := N) (x1 := u.i 63) hI ht h9 (tp_ib tu (by omega)) (tp_nat tu) hσ
    rw [eX]
    exact TRB hN hbk hI hpl ht (by omega) hb hc hn n1 hF hC hid hσ gσ y1 y2 y3 y4 y5 y6 y7 y8
  show ok ((if (E.i 10) = 424 then f_X12_trying_124 N (RS.setA (RS.setI E 52 ((E.i 52) + 1)) 67 t 1) (u.i 63) else f_X12_trying_124 N (RS.setA (RS.setI E 52 ((E.i 52) + 1)) 67 t 0) (u.i 63) : Option RS).bind fun p => f_X12_parse_10 N n p) P
  unfold f_X12_trying_124
  have e10 : ∀ y : Int32, (RS.setA (RS.setI E 52 ((E.i 52) + 1)) 67 t y).i 10 = E.i 10 := fun _ => rfl
  by_cases c : E.i 10 = 424
  · rw [if_pos c, if_pos (by rw [e10]; exact c)]
    exact fin 1 1 (Or.inr rfl) (fun _ => rfl) (fun _ => c)
  · rw [if_neg c, if_neg (by rw [e10]; exact c)]
    exact fin 0 0 (Or.inl rfl) (fun q => q) (fun q => absurd q (by decide))
end
section
/-! reading: a statement's first step -/
def SQ (s : RS) (t : Nat) (K : Int32) : RS := RS.setA (RS.setI s 53 ((s.i 53) + 1)) 64 t K
theorem SQ.tbl (s : RS) (t : Nat) (K : Int32) : TBL s (SQ s t K) := ⟨fun k hk => if_neg (by omega), rfl, fun j _ h _ _ => if_neg (by omega)⟩
theorem SQ.kp (s : RS) (t : Nat) (K : Int32) : KP t s (SQ s t K) := ((KP.rf t s).i53 _).loc t K (by omega) (by omega) (Nat.le_refl _)
theorem SQ.inv {s : RS} {t : Nat} {K : Int32} (h : INV s) : INV (SQ s t K) := h.tbl (SQ.tbl s t K) h.1 h.2.2.1 rfl rfl h.r (Int.le_refl _) h.2.2.2.2.2.2.2.2.2.2.2.2.2.2.2
theorem SQ.a64 {s : RS} {t : Nat} {K : Int32} : (SQ s t K).a 64 t = K := setA_at
theorem SQ.a {s : RS} {t : Nat} {K : Int32} {k : Nat} (h : k ≠ 64) : (SQ s t K).a k = s.a k := setA_nk h
theorem SK.eq {s : RS} {t : Nat} {K : Int32} : SK s t K = EM (SQ s t K) 1 0 := rfl
theorem e_240 {N : Nat} {s : RS} {t : Nat} {K : Int32} (ht : tpI s = t) (h9 : t < 1000) (hI : INV s) (k2 : ¬ K = 2) (k5 : ¬ K = 5) : f_X12_stat_240 N (SQ s t K) (s.i 63) = some (SK s t K) := by
  unfold f_X12_stat_240
  have cs := (SQ.inv (t := t) (K := K) hI).cd
  rw [if_pos (tp_ib ht h9), tp_nat ht, SQ.a64, if_neg k2, if_neg k5, p_em 1 0 cs.1 cs.2.2]
  rfl
theorem PS.sq {t : Nat} {s u : RS} {K : Int32} (hI : INV s) (h : PS t (SQ s t K) u) : PS t s u := by
  obtain ⟨a1, a2, a3, a4, a5, a6, a7, a8, a9⟩ := h
  exact ⟨a1, a2, (SQ.kp s t K).tr a3 (Nat.le_refl _), a4, a5, a6, a7, a8, fun z => (a9 z).tbs (SQ.tbl s t K).sy (TBL.rf u).tbs rfl (Int.le_refl _) hI.1.f0.2 (fun q => q)⟩
theorem run_stat {N b : Nat} (hN : 1000 ≤ N) (h3 : RUNB N b) (h4 : RUNK N b 4 (fun x => x = 410 ∨ x = 411)) (h5 : RUNN N b) (h6 : RUNK N b 6 (fun x => x = 412 ∨ x = 420 ∨ x = 431)) (h7 : RUNK N b 7 (fun x => x = 421)) (h8 : RUNK N b 8 (fun x => x = 427)) (h9' : RUNK N b 9 (fun x => x = 413)) (h10 : RUNK N b 10 (fun x => x = 415)) (h11 : RUNK N b 11 (fun x => x = 416)) (h12 : RUNK N b 12 (fun x => x = 417)) (h13 : RUNK N b 13 (fun x => x = 422)) (h14 : RUNK N b 14 (fun x => x = 428)) (h15 : RUNK N b 15 (fun x => x = 423)) : RUNS N b := by
  intro n s t P hI hp ht hK hS hb hc hn hF hC
  have hf := hI.1.f0
  have hop := hI.op
  obtain ⟨n', rfl⟩ : ∃ n', n = n' + 1 := ⟨n - 1, by omega⟩
  have push : ((n' + 1 : Nat) : Int) = (n' : Int) + 1 := by omega
  rw [push] at hn hC
  have h9 : t < 998 := by omega
  refine lp_2 ht (by omega) hI.2.2.1 hK ?_
  have ibt := tp_ib ht (show t < 1000 by omega)
  have go : ∀ (K : Int32) (T : Int32 → Prop), ¬ K = 2 → ¬ K = 5 → RUNK N b K T → T (s.i 10) → ok ((if ib (s.i 63) 1000 then f_X12_stat_240 N (RS.setA (RS.setI s 53 ((s.i 53) + 1)) 64 t K) (s.i 63) else none : Option RS).bind fun p => f_X12_parse_10 N n' p) P := fun K T k2 k5 hk hT => by
    have e : f_X12_stat_240 N (RS.setA (RS.setI s 53 ((s.i 53) + 1)) 64 t K) (s.i 63) = some (SK s t K) := e_240 ht (by omega) hI k2 k5
    rw [if_pos ibt, e]
    exact hk n' s t P hI hp ht hS hT hb hc (by omega) hF (fun m u q1 q2 q3 => hC m u q1 q2 (by omega))
  unfold f_X12_stat
  rw [tp_nat ht]
  by_cases c123 : s.i 10 = 123
  · rw [if_pos c123, if_pos ibt]
    show ok (f_X12_parse_10 N n' (SQ s t 3)) P
    exact h3 n' (SQ s t 3) t P (SQ.inv hI) ((hp.prl (by rw [c123]; decide)).tbl (SQ.tbl s t 3)) ht SQ.a64 (by rw [SQ.a (by decide)]; exact hS) hb hc (by show 36000 + 29 ≤ (n' : Int) + 40 * fr s; omega) (fun u hu => hF u (FS'.kp (SQ.kp s t 3) hu)) (fun m u q1 q2 q3 => hC m u (PS.sq hI q1) q2 (by have q3 : (n' : Int) + 40 * fr s + 11 ≤ m + 40 * fr u := q3; omega))
  rw [if_neg c123]
  by_cases c410 : s.i 10 = 410
  · rw [if_pos c410]; exact go 4 _ (by decide) (by decide) h4 (Or.inl c410)
  rw [if_neg c410]
  by_cases c411 : s.i 10 = 411
  · rw [if_pos c411]; exact go 4 _ (by decide) (by decide) h4 (Or.inr c411)
  rw [if_neg c411]
  by_cases c2 : s.i 10 = 2
  · rw [if_pos c2, if_pos ibt]
    have e : f_X12_stat_240 N (RS.setA (RS.setI s 53 ((s.i 53) + 1)) 64 t 5) (s.i 63) = some (SQ s t 5) := by
      show f_X12_stat_240 N (SQ s t 5) (s.i 63) = some (SQ s t 5)
      unfold f_X12_stat_240
      rw [if_pos ibt, tp_nat ht, SQ.a64, if_neg (by decide), if_pos rfl]
    rw [e]
    show ok (f_X12_parse_10 N n' (SQ s t 5)) P
    obtain ⟨n2, rfl⟩ : ∃ n2, n' = n2 + 1 := ⟨n' - 1, by omega⟩
    have push2 : ((n2 + 1 : Nat) : Int) = (n2 : Int) + 1 := by omega
    rw [push2] at hn hC
    exact h5 n2 s (SQ s t 5) t P hI hp ht (SQ.inv hI) (SQ.kp s t 5) (SQ.tbl s t 5) rfl rfl rfl rfl (fun k hk => SQ.a hk) SQ.a64 (by rw [SQ.a (by decide)]; exact hS) c2 ht h9 hb hc (by omega) (by omega) hF (fun m u q1 q2 q3 => hC m u q1 q2 (by omega))
  rw [if_neg c2]
  by_cases c412 : s.i 10 = 412
  · rw [if_pos c412]; exact go 6 _ (by decide) (by decide) h6 (Or.inl c412)
  rw [if_neg c412]
  by_cases c420 : s.i 10 = 420
  · rw [if_pos c420]; exact go 6 _ (by decide) (by decide) h6 (Or.inr (Or.inl c420))
  rw [if_neg c420]
  by_cases c431 : s.i 10 = 431
  · rw [if_pos c431]; exact go 6 _ (by decide) (by decide) h6 (Or.inr (Or.inr c431))
  rw [if_neg c431]
  by_cases c421 : s.i 10 = 421
  · rw [if_pos c421]; exact go 7 _ (by decide) (by decide) h7 c421
  rw [if_neg c421]
  by_cases c427 : s.i 10 = 427
  · rw [if_pos c427]; exact go 8 _ (by decide) (by decide) h8 c427
  rw [if_neg c427]
  by_cases c413 : s.i 10 = 413
  · rw [if_pos c413]; exact go 9 _ (by decide) (by decide) h9' c413
  rw [if_neg c413]
  by_cases c415 : s.i 10 = 415
  · rw [if_pos c415]; exact go 10 _ (by decide) (by decide) h10 c415
  rw [if_neg c415]
  by_cases c416 : s.i 10 = 416
  · rw [if_pos c416]; exact go 11 _ (by decide) (by decide) h11 c416
  rw [if_neg c416]
  by_cases c417 : s.i 10 = 417
  · rw [if_pos c417]; exact go 12 _ (by decide) (by decide) h12 c417
  rw [if_neg c417]
  by_cases c422 : s.i 10 = 422
  · rw [if_pos c422]; exact go 13 _ (by decide) (by decide) h13 c422
  rw [if_neg c422]
  by_cases c428 : s.i 10 = 428
  · rw [if_pos c428]; exact go 14 _ (by decide) (by decide) h14 c428
  rw [if_neg c428]
  by_cases c423 : s.i 10 = 423
  · rw [if_pos c423]; exact go 15 _ (by decide) (by decide) h15 c423
  rw [if_neg c423]
  have e2 : f_X12_stat_240 N (RS.setA (RS.setI s 53 ((s.i 53) + 1)) 64 t 2) (s.i 63) = (if (s.i 10) = 59 then (f_X12_can N (SQ s t 2) 1).bind fun p7 => (if p7.1 = 0 then some p7.2 else f_X12_stat_309 N p7.2) else (if (s.i 10) = 418 then (f_X12_can N (SQ s t 2) 1).bind fun p22 => (if p22.1 = 0 then some p22.2 else f_X12_stat_309 N p22.2) else (if (s.i 10) = 419 then (f_X12_can N (SQ s t 2) 1).bind fun p29 => (if p29.1 = 0 then some p29.2 else f_X12_stat_309 N p29.2) else (f_X12_can N (SQ s t 2) 0).bind fun p26 => (if p26.1 = 0 then some p26.2 else f_X12_stat_309 N p26.2)))) := by
    show f_X12_stat_240 N (SQ s t 2) (s.i 63) = _
    unfold f_X12_stat_240
    rw [if_pos ibt, tp_nat ht, SQ.a64, if_pos rfl]
    rfl
  rw [if_pos ibt, e2]
  clear e2
  have iq := SQ.inv (t := t) (K := 2) hI
  have cs := iq.cd
  have c1 : ¬ s.i 10 = 6 → (((f_X12_can N (SQ s t 2) 1).bind fun p7 => (if p7.1 = 0 then some p7.2 else f_X12_stat_309 N p7.2)) : Option RS) = f_X12_stat_309 N (SQ s t 2) := fun h6 => by
    rw [can1 iq.2.2.1 h6]
    show (if (1 : Int32) = 0 then some (SQ s t 2) else f_X12_stat_309 N (SQ s t 2)) = _
    rw [if_neg (by decide)]
  have hu : SKF s (SK s t 2) t 2 := SK.f 2 hI hS
  have e309 : f_X12_stat_309 N (SQ s t 2) = (if (s.i 10) = 59 then (f_X12_next N (SK s t 2)).bind fun p17 => (f_X12_over N p17 1).bind fun p19 => some p19 else (f_X12_jump N (SK s t 2)).bind fun p13 => (f_X12_over N p13 0).bind fun p15 => some p15) := by
    unfold f_X12_stat_309
    rw [p_em 1 0 cs.1 cs.2.2]
    rfl
  by_cases c59 : s.i 10 = 59
  · rw [if_pos c59, c1 (by rw [c59]; decide), e309, if_pos c59]
    obtain ⟨R, eR, hR, xR⟩ := STA (N := N) (by omega) hI ht (by rw [c59]; decide) hu
    rw [eR]
    clear eR
    have mR := hR.mm
    obtain ⟨r1, r2, r3, r4, r5, r6, r7, r8, r9, r10, r11, r12, r13, r14⟩ := hR
    show ok (((f_X12_over N R 1).bind fun p19 => some p19).bind fun p => f_X12_parse_10 N n' p) P
    refine IF3 (q := R) (x := 1) h9 (Or.inr rfl) (fun u q1 q2 => hC n' u q1 (by omega) (by omega)) r1 r2 r3 r4 mR.snw r6 (by omega) (by omega) (fun _ => ?_)
    exact TS.i0 hI.cd.1 (by show cdI R = _; exact r9) r10 rfl
  rw [if_neg c59]
  have jmp : s.i 10 = 418 ∨ s.i 10 = 419 → ok ((f_X12_stat_309 N (SQ s t 2)).bind fun p => f_X12_parse_10 N n' p) P := fun hT => by
    rw [e309, if_neg c59]
    exact run_jump (by omega) hI hp ht hu hT h9 (by omega) hF (fun W q1 q2 => hC n' W q1 q2 (by omega))
  by_cases c418 : s.i 10 = 418
  · rw [if_pos c418, c1 (by rw [c418]; decide)]; exact jmp (Or.inl c418)
  rw [if_neg c418]
  by_cases c419 : s.i 10 = 419
  · rw [if_pos c419, c1 (by rw [c419]; decide)]; exact jmp (Or.inr c419)
  rw [if_neg c419]
  obtain ⟨G, eG, y1, y2⟩ := can0 (N := N) iq.1 iq.2.2.1
  rw [eG]
  exact lp_f y2 (hF G (FS'.of (SQ.kp s t 2).1.1 y1 y2 iq.r)) (by omega)
/-- all of the reading's frames -/
def ALLR (N b : Nat) : Prop := RUNE N 18 6 5 30 b ∧ RUNE N 17 5 8 27 b ∧ RUNE N 16 4 11 24 b ∧ RUNE N 22 3 14 21 b ∧ RUNE N 21 2 17 18 b ∧ RUNE N 20 1 20 15 b ∧ RUNS N b ∧ RUNL N b ∧ RUNB N b ∧ RUNBW N b
theorem run_step {N b : Nat} (hN : 4000 ≤ N) (ih : 1 ≤ b → ALLR N (b - 1)) : ALLR N b := by
  have hN1 : 1000 ≤ N := by omega
  have i18 : 1 ≤ b → RUNE N 18 6 5 30 (b - 1) := fun q => (ih q).1
  have i16 : 1 ≤ b → RUNE N 16 4 11 24 (b - 1) := fun q => (ih q).2.2.1
  have i22 : 1 ≤ b → RUNE N 22 3 14 21 (b - 1) := fun q => (ih q).2.2.2.1
  have i20 : 1 ≤ b → RUNE N 20 1 20 15 (b - 1) := fun q => (ih q).2.2.2.2.2.1
  have iS : 1 ≤ b → RUNS N (b - 1) := fun q => (ih q).2.2.2.2.2.2.1
  have iL : 1 ≤ b → RUNL N (b - 1) := fun q => (ih q).2.2.2.2.2.2.2.1
  have iB : 1 ≤ b → RUNB N (b - 1) := fun q => (ih q).2.2.2.2.2.2.2.2.1
  have iW : 1 ≤ b → RUNBW N (b - 1) := fun q => (ih q).2.2.2.2.2.2.2.2.2
  have a := run_arms hN1 i16 iL
  have f18 := run_factor hN1 i18 i16 a
  have f17 := run_term hN1 f18
  have f16 := run_expr hN1 f17
  have f22 := run_one hN1 i22 i20 f16
  have f21 := run_ands hN1 f22
  have f20 := run_cond hN1 f21
  have fB := run_block hN1 iL
  have fW := run_blockW hN1 iL
  have fS : RUNS N b := run_stat hN1 fB (run_tell hN1 i16) (run_named hN i16 iS) (run_ending hN1 i16) ((run_throw hN1 i16).k (fun x h => by rw [h]; decide)) ((run_assert hN1 i20 i16).k (fun x h => by rw [h]; decide)) ((run_if hN1 i20 iS).k (fun x h => by rw [h]; decide)) ((run_while hN i20 iS).k (fun x h => by rw [h]; decide)) ((run_do hN i20 iS).k (fun x h => by rw [h]; decide)) ((run_for hN i20 i16 iS).k (fun x h => by rw [h]; decide)) ((run_lock hN1 iB).k (fun x h => by rw [h]; decide)) ((run_groups hN i16 iL).k (fun x h => by rw [h]; decide)) ((run_try hN1 iW).k (fun x h => by rw [h]; decide))
  exact ⟨f18, f17, f16, f22, f21, f20, fS, run_list fS, fB, fW⟩
theorem run_all {N : Nat} (hN : 4000 ≤ N) : ∀ b : Nat, ALLR N b
  | 0 => run_step hN (fun q => absurd q (by omega))
  | b + 1 => run_step hN (fun _ => run_all hN b)
end
section
/-! reading: the whole text -/
/-- the state where a reading begins, behind its first word -/
def RD0 (s : RS) : Prop := LXI s ∧ RB s ∧ s.i 15 = 0 ∧ (s.i 75 = 0 ∨ s.i 75 = 1) ∧ (s.i 19 = 0 ∧ s.i 20 = 0 ∧ s.i 24 = 0 ∧ s.i 29 = 0 ∧ s.i 33 = 0 ∧ s.i 43 = 0 ∧ s.i 52 = 0 ∧ s.i 56 = 0 ∧ s.i 59 = 0) ∧ (seI s = 2 ∧ slI s = 2) ∧ (∀ x : Nat, x < 2 → 0 ≤ gv s 40 x ∧ gv s 40 x < 2 ∧ s.a 41 x = 0) ∧ (0 ≤ tkI s ∧ tkI s ≤ fr s + 1)
theorem RD0.n {s : RS} (h : RD0 s) : op s = 0 ∧ cdI s = 0 ∧ enI s = 0 ∧ trI s = 0 ∧ caI s = 0 ∧ goI s = 0 ∧ deI s = 0 ∧ waI s = 0 ∧ peI s = 0 := by
  obtain ⟨-, -, -, -, ⟨a1, a2, a3, a4, a5, a6, a7, a8, a9⟩, -⟩ := h
  refine ⟨?_, ?_, ?_, ?_, ?_, ?_, ?_, ?_, ?_⟩
  · unfold op; rw [a1]; exact z_t0
  · unfold cdI; rw [a2]; exact z_t0
  · unfold enI; rw [a3]; exact z_t0
  · unfold trI; rw [a4]; exact z_t0
  · unfold caI; rw [a5]; exact z_t0
  · unfold goI; rw [a6]; exact z_t0
  · unfold deI; rw [a7]; exact z_t0
  · unfold waI; rw [a8]; exact z_t0
  · unfold peI; rw [a9]; exact z_t0
theorem RD0.inv {s : RS} (h : RD0 s) : INV s := by
  obtain ⟨n1, n2, n3, n4, n5, n6, n7, n8, n9⟩ := h.n
  obtain ⟨b1, b2, b3, b4, b5, ⟨b6, b7⟩, b8, b9⟩ := h
  have f0 := b1.f0
  refine ⟨b1, b2, b3, ⟨⟨fun γ b hγ => by omega, fun γ γ' b b' L L' x hγ => by omega, fun p hp => by omega, fun w w' _ hw => by omega, fun p w hp => by omega⟩, fun j hj => by omega, fun j hj => by omega, fun j hj => by omega, fun x hx => ?_, fun j hj => by omega, fun γ hγ => by omega, fun k hk => by omega, fun w hw => by omega, b4⟩, ?_⟩
  · obtain ⟨c1, c2, c3⟩ := b8 x (by omega)
    refine ⟨c1, by omega, ⟨fun q => ?_, fun q => absurd c3 q⟩⟩
    obtain ⟨j, j1, -⟩ := q
    omega
  · unfold NUM
    omega
theorem RD0.prl {s : RS} (h : RD0 s) : PRL s := by
  obtain ⟨n1, n2, n3, n4, n5, n6, n7, n8, n9⟩ := h.n
  exact ⟨fun γ hγ => by have := hγ.1; omega, fun γ hγ => by have := hγ.1; omega⟩
/-- the code of a text that was read is typed -/
theorem WT.read {s u : RS} (h : RD0 s) (hu : PS 0 s u) (h18 : ¬ 0 ≤ u.i 18) : ∃ g : Gh, WT u g := by
  obtain ⟨n1, n2, n3, n4, n5, n6, n7, n8, n9⟩ := h.n
  obtain ⟨b1, b2, b3, b4, b5, ⟨b6, b7⟩, b8, b9⟩ := h
  obtain ⟨a1, a2, a3, a4, a5, a6, a7, a8, a9⟩ := hu
  have f0 := b1.f0
  have fu := a1.1.f0
  have ts := a9 h18
  have gu : goI u = 0 := a4.go.trans n6
  have kh := a3.2.2.2.2.1
  obtain ⟨C, hC⟩ : ∃ C : Nat → Bool, ∀ x : Nat, C x = true ↔ ∃ j : Nat, (j : Int) < caI u ∧ gv u 36 j = x := ⟨fun x => @decide (∃ j : Nat, (j : Int) < caI u ∧ gv u 36 j = x) (Classical.propDecidable _), fun x => @decide_eq_true_iff _ (Classical.propDecidable _)⟩
  have c2 : ∀ x : Nat, x < 2 → C x = false := fun x hx => by
    by_cases q : C x = true
    · obtain ⟨j, j1, j2⟩ := (hC x).mp q
      have := (kh.2.2.2.2.2 j (by omega) j1).1
      omega
    · exact Bool.eq_false_iff.mpr q
  have hCX : CX s 0 0 0 [] := ⟨by show ((0 : Nat) : Int) = deI s; omega, by omega, by omega, by omega, by show 2 * (((0 : Nat)) : Int) ≤ fr s; omega, rfl, f0.2, by omega⟩
  obtain ⟨S, hS⟩ := ts u C (AG0.kp (KP.rf 0 u)) (fun x _ _ => by
    rw [hC x]
    constructor
    · rintro ⟨j, j1, j2⟩; exact ⟨j, by omega, j1, j2⟩
    · rintro ⟨j, _, j1, j2⟩; exact ⟨j, j1, j2⟩) 0 0 0 [] hCX (fun γ hγ => by omega)
  obtain ⟨g, hg⟩ : ∃ g : Gh, g = (S, C) := ⟨_, rfl⟩
  have gC : g.isC = C := by rw [hg]; rfl
  have gT : ∀ k c, S k c → g.T k c := fun k c q => by rw [hg]; exact q
  have gT' : ∀ k c, g.T k c → S k c := fun k c q => by rw [hg] at q; exact q
  clear hg
  have nm := a1.2.2.2.2
  have cu := a1.cd
  obtain ⟨w1, w2⟩ := hS g gC gT ⟨⟨fun _ _ => True.intro, fun x hx => by
    obtain ⟨e1, e2, e3⟩ := b8 x (by omega)
    rw [gC]
    have := c2 (gv s 40 x).toNat (by omega)
    constructor
    · intro q; rw [this] at q; exact absurd q (by decide)
    · intro q; exact absurd e3 q⟩, fun _ => ⟨cu.1, Int.le_refl _, fun q => by omega⟩, fun γ b k hγ => by have := hγ.1; omega⟩
  rw [n2] at w1
  have tb := a1.2.2.2.1
  refine ⟨g, ⟨cu.1, by omega⟩, ⟨nm.2.2.2.1.1, by have := nm.2.2.2.1.2; have := nm.1; show trI u ≤ 200; omega⟩, ⟨nm.2.2.2.2.1.1, by have := nm.2.2.2.2.1.2; show caI u ≤ 400; omega⟩, ⟨nm.2.2.1.1, by have := nm.2.2.1.2; show enI u ≤ 500; omega⟩, tb.2.2.1, tb.2.2.2.1, tb.2.1, fun q => ?_, fun k c _ q => w2 k c (gT' k c q), by rw [gC]; exact c2 0 (by omega), by rw [gC]; exact c2 1 (by omega)⟩
  obtain ⟨c, q1, q2, q3, q4, q5, q6⟩ := w1.2.2 q
  exact ⟨c, q1, q2, q4, q5⟩
def PU (s : RS) : RS := RS.setA (RS.setA (RS.setI (RS.setI s 63 (-1)) 63 0) 64 0 1) 65 0 0
theorem PU.rd {s : RS} (h : RD0 s) : RD0 (PU s) := by
  obtain ⟨b1, b2, b3, b4, b5, b6, b8, b9⟩ := h
  have hi : ∀ j : Nat, j ≠ 63 → (PU s).i j = s.i j := fun j hj => (if_neg hj).trans (if_neg hj)
  have ha : ∀ k : Nat, k ≠ 64 → k ≠ 65 → (PU s).a k = s.a k := fun k q1 q2 => (if_neg q2).trans (if_neg q1)
  have hb : (PU s).b = s.b := rfl
  generalize PU s = p at *
  refine ⟨b1.of (hi 2 (by decide)) (hi 10 (by decide)) (hi 11 (by decide)) (hi 12 (by decide)) (hi 14 (by decide)) (by rw [hb]), RB.of (hi 2 (by decide)) (hi 3 (by decide)) (ha 4 (by decide) (by decide)) (ha 6 (by decide) (by decide)) (ha 7 (by decide) (by decide)) b2, (hi 15 (by decide)).trans b3, by rw [hi 75 (by decide)]; exact b4, ?_, ?_, fun x hx => ?_, ?_⟩
  · rw [hi 19 (by decide), hi 20 (by decide), hi 24 (by decide), hi 29 (by decide), hi 33 (by decide), hi 43 (by decide), hi 52 (by decide), hi 56 (by decide), hi 59 (by decide)]; exact b5
  · unfold seI slI at *; rw [hi 38 (by decide), hi 42 (by decide)]; exact b6
  · unfold gv at *; rw [ha 40 (by decide) (by decide), ha 41 (by decide) (by decide)]; exact b8 x hx
  · unfold tkI fr at *; rw [hi 17 (by decide), hi 11 (by decide)]; exact b9
theorem p_parse {N : Nat} (hN : 40000 ≤ N) {s : RS} (h : RD0 s) : ok (f_X12_parse N s) (fun R => K1 s R ∧ (R.i 75 = 0 ∨ R.i 75 = 1) ∧ (R.i 15 = 0 → ¬ 0 ≤ R.i 18 → ∃ g : Gh, WT R g)) := by
  unfold f_X12_parse
  have e : f_X12_push N (RS.setI s 63 (-1)) 1 = some (PU s) := by
    have e0 : ((RS.setI s 63 (-1)).i 63) + 1 = (0 : Int32) := by show (-1 : Int32) + 1 = 0; decide
    unfold f_X12_push
    rw [e0, if_pos (show ib (0 : Int32) 1000 from ⟨by decide, by decide⟩)]
    rfl
  rw [e]
  show ok (f_X12_parse_10 N N (PU s)) _
  have hp := PU.rd h
  have kk : K1 s (PU s) := ⟨fun j hj => (if_neg (by omega)).trans (if_neg (by omega)), fun k hk => (if_neg (by omega)).trans (if_neg (by omega)), rfl⟩
  have f0 := hp.1.f0
  have n := hp.n
  refine (run_all (N := N) (by omega) 900).2.2.2.2.2.2.2.1 N (PU s) 0 _ hp.inv hp.prl (by show (0 : Int32).toInt = ((0 : Nat) : Int); decide) rfl rfl (by omega) (by omega) (by omega) (fun u hu => ?_) (fun m u hu hu2 hm => ?_)
  · exact ⟨kk.tr hu.2.1, hu.2.2, fun q => absurd q hu.1⟩
  · have fu := hu.1.1.f0
    obtain ⟨m', rfl⟩ : ∃ m', m = m' + 1 := ⟨m - 1, by omega⟩
    have tp : tpI u = -1 := by have := hu.2.1; omega
    show ok (b_X12_parse_10 N (f_X12_parse_10 N m') u) _
    unfold b_X12_parse_10
    have e1 : u.i 63 < 0 := Int32.lt_iff_toInt_lt.mpr (by rw [z_t0]; show tpI u < 0; omega)
    rw [if_pos e1]
    exact ok_some ⟨kk.tr hu.2.2.1.1.1, hu.1.r, fun _ q => WT.read hp hu q⟩
end
section
/-! the typing stands where the tables stand -/
def EQW (s t : RS) : Prop := (t.i 20 = s.i 20 ∧ t.i 24 = s.i 24 ∧ t.i 29 = s.i 29 ∧ t.i 33 = s.i 33 ∧ t.i 3 = s.i 3) ∧ ∀ k : Nat, 20 < k → k < 38 → t.a k = s.a k
theorem EQW.g {s t : RS} (h : EQW s t) (k : Nat) (h1 : 20 < k) (h2 : k < 38) : gv t k = gv s k := by
  funext i; unfold gv; rw [h.2 k h1 h2]
theorem EQW.cd {s t : RS} (h : EQW s t) : cdI t = cdI s := by unfold cdI; rw [h.1.1]
theorem EQW.fl {s t : RS} (h : EQW s t) : FL t = FL s := by
  funext g v kk x hh o rs; unfold FL; rw [h.cd]
theorem EQW.fs {s t : RS} (h : EQW s t) : FS t = FS s := by
  funext g x hh o rs; unfold FS; rw [h.cd]
theorem EQW.fp {s t : RS} (h : EQW s t) : FP t = FP s := by
  funext g k v y hh o rs; unfold FP; rw [h.cd]
theorem EQW.ar {s t : RS} (h : EQW s t) (g : Gh) (d : Nat) : ∀ rs : List Rec, arr t g d rs = arr s g d rs
  | [] => rfl
  | r :: rs => by
    show (rs.length + 1 ≤ d ∨ ((r.k = 4 → r.p < 2 → 0 ≤ gv t 31 r.a → r.ps = true) ∧ arr t g d rs)) = (rs.length + 1 ≤ d ∨ ((r.k = 4 → r.p < 2 → 0 ≤ gv s 31 r.a → r.ps = true) ∧ arr s g d rs))
    rw [h.g 31 (by decide) (by decide), EQW.ar h g d rs]
theorem EQW.lv {s t : RS} (h : EQW s t) (d hh v : Nat) (x : Int) : ∀ rs : List Rec, lvA t d hh v x rs = lvA s d hh v x rs
  | [] => rfl
  | r :: rs => by
    show (rs.length + 1 ≤ d ∨ (r.k ≠ 3 ∧ (r.k = 4 → r.h = hh ∧ (v < r.v ∨ v ≤ r.v ∧ gv t 32 r.a ≤ x)) ∧ lvA t d hh v x rs)) = (rs.length + 1 ≤ d ∨ (r.k ≠ 3 ∧ (r.k = 4 → r.h = hh ∧ (v < r.v ∨ v ≤ r.v ∧ gv s 32 r.a ≤ x)) ∧ lvA s d hh v x rs))
    rw [h.g 32 (by decide) (by decide), EQW.lv h d hh v x rs]
theorem EQW.ca {s t : RS} (h : EQW s t) (j : Nat) : ∀ (n : Nat) (k : Int), catchIn t j n k = catchIn s j n k
  | 0, _ => rfl
  | n + 1, k => by
    show (0 ≤ k ∧ (k = (j : Int) ∨ catchIn t j n (gv t 37 k.toNat))) = (0 ≤ k ∧ (k = (j : Int) ∨ catchIn s j n (gv s 37 k.toNat)))
    rw [h.g 37 (by decide) (by decide), EQW.ca h j n]
theorem EQW.en {s t : RS} (h : EQW s t) (j : Nat) : ∀ (n : Nat) (k : Int), entryIn t j n k = entryIn s j n k
  | 0, _ => rfl
  | n + 1, k => by
    show (0 ≤ k ∧ (k = (j : Int) ∨ entryIn t j n (gv t 27 k.toNat))) = (0 ≤ k ∧ (k = (j : Int) ∨ entryIn s j n (gv s 27 k.toNat)))
    rw [h.g 27 (by decide) (by decide), EQW.en h j n]
theorem EQW.jm {s t : RS} (h : EQW s t) : JMP t = JMP s := by
  funext g v kk x d hh o rs
  unfold JMP
  have e1 : ∀ v', lvA t d hh v' x rs = lvA s d hh v' x rs := fun v' => h.lv d hh v' x rs
  have e2 : arr t g d rs = arr s g d rs := h.ar g d rs
  rw [e2, h.cd]
  simp only [e1]
theorem EQW.rc {s t : RS} (h : EQW s t) (g : Gh) (k v : Nat) (r : Rec) (rs : List Rec) : recOK t g k v r rs = recOK s g k v r rs := by
  unfold recOK
  have e1 : ∀ j, catchIn t j 400 (gv s 30 r.a) = catchIn s j 400 (gv s 30 r.a) := fun j => h.ca j 400 _
  rw [h.fl, h.cd, h.g 23 (by decide) (by decide), h.g 30 (by decide) (by decide), h.g 31 (by decide) (by decide), h.g 32 (by decide) (by decide), h.g 35 (by decide) (by decide), h.g 36 (by decide) (by decide), h.1.2.2.1]
  simp only [e1]
theorem EQW.rcs {s t : RS} (h : EQW s t) (g : Gh) (k v : Nat) : ∀ rs : List Rec, recsOK t g k v rs = recsOK s g k v rs
  | [] => rfl
  | r :: rs => by
    show (recOK t g k v r rs ∧ recsOK t g k v rs) = (recOK s g k v r rs ∧ recsOK s g k v rs)
    rw [h.rc, EQW.rcs h g k v rs]
theorem EQW.et {s t : RS} (h : EQW s t) : endT t = endT s := by
  funext g k v r rs
  unfold endT
  rw [h.fl, h.g 31 (by decide) (by decide), h.g 32 (by decide) (by decide)]
theorem EQW.ok {s t : RS} (h : EQW s t) (g : Gh) (k : Nat) (c : Ctx) : OKI t g k c = OKI s g k c := by
  have e1 : entryIn t = entryIn s := by funext j n x; exact h.en j n x
  unfold OKI
  rw [h.fl, h.fs, h.fp, h.jm, h.et, e1, h.g 21 (by decide) (by decide), h.g 22 (by decide) (by decide), h.g 23 (by decide) (by decide), h.g 26 (by decide) (by decide), h.g 28 (by decide) (by decide), h.1.2.1, h.1.2.2.1, h.1.2.2.2.2]
theorem WT.eqw {s t : RS} {g : Gh} (h : WT s g) (e : EQW s t) : WT t g := by
  unfold WT at h ⊢
  rw [e.cd, e.1.2.1, e.1.2.2.1, e.1.2.2.2.1, e.g 37 (by decide) (by decide), e.g 30 (by decide) (by decide), e.g 27 (by decide) (by decide)]
  simp only [e.ok, e.rcs]
  exact h
theorem en_i3 (s : RS) (v : Int32) (j : Nat) : ∀ (n : Nat) (k : Int), entryIn (s.setI 3 v) j n k = entryIn s j n k
  | 0, _ => rfl
  | n + 1, k => by
    show (0 ≤ k ∧ (k = (j : Int) ∨ entryIn (s.setI 3 v) j n (gv s 27 k.toNat))) = (0 ≤ k ∧ (k = (j : Int) ∨ entryIn s j n (gv s 27 k.toNat)))
    rw [en_i3 s v j n]
theorem ca_i3 (s : RS) (v : Int32) (j : Nat) : ∀ (n : Nat) (k : Int), catchIn (s.setI 3 v) j n k = catchIn s j n k
  | 0, _ => rfl
  | n + 1, k => by
    show (0 ≤ k ∧ (k = (j : Int) ∨ catchIn (s.setI 3 v) j n (gv s 37 k.toNat))) = (0 ≤ k ∧ (k = (j : Int) ∨ catchIn s j n (gv s 37 k.toNat)))
    rw [ca_i3 s v j n]
theorem ar_i3 (s : RS) (v : Int32) (g : Gh) (d : Nat) : ∀ rs : List Rec, arr (s.setI 3 v) g d rs = arr s g d rs
  | [] => rfl
  | r :: rs => by
    show (rs.length + 1 ≤ d ∨ ((r.k = 4 → r.p < 2 → 0 ≤ gv s 31 r.a → r.ps = true) ∧ arr (s.setI 3 v) g d rs)) = (rs.length + 1 ≤ d ∨ ((r.k = 4 → r.p < 2 → 0 ≤ gv s 31 r.a → r.ps = true) ∧ arr s g d rs))
    rw [ar_i3 s v g d rs]
theorem lv_i3 (s : RS) (w : Int32) (d hh v : Nat) (x : Int) : ∀ rs : List Rec, lvA (s.setI 3 w) d hh v x rs = lvA s d hh v x rs
  | [] => rfl
  | r :: rs => by
    show (rs.length + 1 ≤ d ∨ (r.k ≠ 3 ∧ (r.k = 4 → r.h = hh ∧ (v < r.v ∨ v ≤ r.v ∧ gv s 32 r.a ≤ x)) ∧ lvA (s.setI 3 w) d hh v x rs)) = (rs.length + 1 ≤ d ∨ (r.k ≠ 3 ∧ (r.k = 4 → r.h = hh ∧ (v < r.v ∨ v ≤ r.v ∧ gv s 32 r.a ≤ x)) ∧ lvA s d hh v x rs))
    rw [lv_i3 s w d hh v x rs]
theorem rc_i3 (s : RS) (w : Int32) (g : Gh) (k v : Nat) (r : Rec) (rs : List Rec) : recOK (s.setI 3 w) g k v r rs = recOK s g k v r rs := by
  unfold recOK
  simp only [ca_i3]
  rfl
theorem rcs_i3 (s : RS) (w : Int32) (g : Gh) (k v : Nat) : ∀ rs : List Rec, recsOK (s.setI 3 w) g k v rs = recsOK s g k v rs
  | [] => rfl
  | r :: rs => by
    show (recOK (s.setI 3 w) g k v r rs ∧ recsOK (s.setI 3 w) g k v rs) = (recOK s g k v r rs ∧ recsOK s g k v rs)
    rw [rc_i3, rcs_i3 s w g k v rs]
theorem OKI.i3 {s : RS} {g : Gh} {k : Nat} {c : Ctx} (v : Int32) (hv : (s.i 3).toInt ≤ v.toInt) (h : OKI s g k c) : OKI (s.setI 3 v) g k c := by
  unfold OKI at h ⊢
  have e : gv (s.setI 3 v) 21 k = gv s 21 k := rfl
  have en : entryIn (s.setI 3 v) = entryIn s := by funext j n x; exact en_i3 s v j n x
  have jm : JMP (s.setI 3 v) = JMP s := by
    funext g v' kk x d hh o rs
    unfold JMP
    simp only [lv_i3, ar_i3]
    rfl
  rw [e, en, jm]
  split at h <;> first | exact h | exact ⟨h.1, Int.lt_of_lt_of_le h.2 hv⟩ | exact Int.lt_of_lt_of_le h hv | exact h.elim
theorem WT.i3 {s : RS} {g : Gh} (v : Int32) (hv : (s.i 3).toInt ≤ v.toInt) (h : WT s g) : WT (s.setI 3 v) g := by
  obtain ⟨h1, h2, h3, h4, h5, h6, h7, h8, h9, h10, h11⟩ := h
  refine ⟨h1, h2, h3, h4, h5, h6, h7, h8, fun k c q1 q2 => ?_, h10, h11⟩
  obtain ⟨a1, a2, a3⟩ := h9 k c q1 q2
  exact ⟨a1.i3 v hv, by rw [rcs_i3]; exact a2, a3⟩
theorem WT.rk {s t : RS} {g : Gh} (h : WT s g) (e : RK s t) : WT t g := by
  have hv := le_int e.2.2.2.2
  refine (h.i3 (t.i 3) hv).eqw ⟨⟨?_, ?_, ?_, ?_, rfl⟩, fun k k1 k2 => ?_⟩
  · exact e.1 20 (by decide) (by decide) (by decide) (by decide)
  · exact e.1 24 (by decide) (by decide) (by decide) (by decide)
  · exact e.1 29 (by decide) (by decide) (by decide) (by decide)
  · exact e.1 33 (by decide) (by decide) (by decide) (by decide)
  · exact e.2.1 k (by omega) (by omega) (by omega) (by omega) (by omega)
end
section
/-! read, and what stands between the calls of the reference -/
def RI (s : RS) : Prop := RB s ∧ RR s ∧ WD s ∧ (s.i 75 = 0 ∨ s.i 75 = 1) ∧ (¬ s.i 77 = 0 → ∃ g : Gh, WT s g)
theorem p_167 {N : Nat} {s : RS} (h : s.i 75 = 0 ∨ s.i 75 = 1) : ok (f_X12_read_167 N s) (fun R => (∀ j : Nat, j < 76 ∨ 82 ≤ j → R.2.i j = s.i j) ∧ R.2.a = s.a ∧ R.2.b = s.b ∧ R.2.i 81 = 0 ∧ (¬ R.2.i 77 = 0 → s.i 15 = 0)) := by
  unfold f_X12_read_167
  rw [if_pos h]
  have z199 : ∀ (A : RS), (∀ j : Nat, j < 76 ∨ 82 ≤ j → A.i j = s.i j) → A.a = s.a → A.b = s.b → (¬ A.i 77 = 0 → s.i 15 = 0) → ok (f_X12_read_199 N A) (fun R => (∀ j : Nat, j < 76 ∨ 82 ≤ j → R.2.i j = s.i j) ∧ R.2.a = s.a ∧ R.2.b = s.b ∧ R.2.i 81 = 0 ∧ (¬ R.2.i 77 = 0 → s.i 15 = 0)) := fun A h1 h2 h3 h4 => by
    unfold f_X12_read_199
    have hj : ∀ j : Nat, j < 76 ∨ 82 ≤ j → (RS.setI (RS.setI A 79 0) 81 0).i j = s.i j := fun j hj => ((if_neg (by omega)).trans (if_neg (by omega))).trans (h1 j hj)
    exact ok_ite (fun _ => ok_some ⟨hj, h2, h3, rfl, h4⟩) (fun _ => ok_some ⟨hj, h2, h3, rfl, h4⟩)
  have hj : ∀ (x : Int32) (j : Nat), j < 76 ∨ 82 ≤ j → (RS.setI (RS.setI (RS.setI s 78 (s.i 75)) 76 (s.i 15)) 77 x).i j = s.i j := fun x j hj => (if_neg (by omega)).trans ((if_neg (by omega)).trans (if_neg (by omega)))
  refine ok_ite (fun c => z199 _ (hj 1) rfl rfl (fun _ => c)) (fun c => z199 _ (hj 0) rfl rfl (fun q => ?_))
  exact absurd rfl q
theorem p_138 {N : Nat} {s : RS} (h : s.i 75 = 0 ∨ s.i 75 = 1) : ok (f_X12_read_138 N s) (fun R => (∀ j : Nat, j < 76 ∨ 82 ≤ j → j ≠ 2 → j ≠ 15 → j ≠ 16 → R.2.i j = s.i j) ∧ R.2.a = s.a ∧ R.2.b = s.b ∧ R.2.i 2 = 0 ∧ R.2.i 81 = 0 ∧ (¬ R.2.i 77 = 0 → s.i 15 = 0 ∧ s.i 18 < 0)) := by
  unfold f_X12_read_138
  have s2 : ∀ j : Nat, j ≠ 2 → (s.setI 2 0).i j = s.i j := fun j hj => if_neg hj
  refine ok_ite (fun c => ok_ite (fun c2 => ?_) (fun c2 => ?_)) (fun c => ?_)
  · refine ok_imp (p_167 (s := s.setI 2 0) h) (fun R hR => ?_)
    obtain ⟨a1, a2, a3, a4, a5⟩ := hR
    exact ⟨fun j q1 q2 _ _ => (a1 j q1).trans (s2 j q2), a2, a3, (a1 2 (by omega)), a4, fun _ => ⟨c, c2⟩⟩
  · rw [e_fail]
    have e15 : (s.setI 2 0).i 15 = 0 := c
    rw [if_pos e15]
    show ok (f_X12_read_167 N (((s.setI 2 0).setI 15 7).setI 16 (s.i 18))) _
    refine ok_imp (p_167 (s := ((s.setI 2 0).setI 15 7).setI 16 (s.i 18)) h) (fun R hR => ?_)
    obtain ⟨a1, a2, a3, a4, a5⟩ := hR
    refine ⟨fun j q1 q2 q3 q4 => (a1 j q1).trans ((if_neg q4).trans ((if_neg q3).trans (if_neg q2))), a2, a3, (a1 2 (by omega)), a4, fun q => absurd (a5 q) ?_⟩
    show ¬ (7 : Int32) = 0
    decide
  · refine ok_imp (p_167 (s := s.setI 2 0) h) (fun R hR => ?_)
    obtain ⟨a1, a2, a3, a4, a5⟩ := hR
    exact ⟨fun j q1 q2 _ _ => (a1 j q1).trans (s2 j q2), a2, a3, (a1 2 (by omega)), a4, fun q => absurd (a5 q) c⟩
theorem p_can2 {N : Nat} {s : RS} {x : Int32} : ok (f_X12_can N s x) (fun R => (∀ j : Nat, j ≠ 15 → j ≠ 16 → R.2.i j = s.i j) ∧ R.2.a = s.a ∧ R.2.b = s.b ∧ (R.2.i 15 = 0 → R.2 = s)) := by
  rw [e_can]
  refine ok_some ?_
  by_cases c : s.i 15 = 0
  · rw [if_neg (fun z => z c)]
    by_cases d : x = 0 ∨ s.i 10 = 6
    · rw [if_pos d]
      refine ⟨fun j q1 q2 => (if_neg q2).trans (if_neg q1), rfl, rfl, fun q => absurd q ?_⟩
      show ¬ (if s.i 10 = 6 then (1 : Int32) else 2) = 0
      by_cases e : s.i 10 = 6
      · rw [if_pos e]; decide
      · rw [if_neg e]; decide
    · rw [if_neg d]
      exact ⟨fun _ _ _ => rfl, rfl, rfl, fun _ => rfl⟩
  · rw [if_pos c]
    exact ⟨fun _ _ _ => rfl, rfl, rfl, fun _ => rfl⟩
theorem p_read {N : Nat} (hN : 40000 ≤ N) {s : RS} (h : RI s) : ok (f_X12_read N s) (fun R => RI R.2) := by
  obtain ⟨h1, h2, h3, h4, h5⟩ := h
  unfold f_X12_read
  obtain ⟨A, hA⟩ : ∃ A, A = RS.setI (RS.setI (RS.setI (RS.setI (RS.setI (RS.setI (RS.setI (RS.setI (RS.setI s 0 0) 38 0) 42 0) 43 0) 19 0) 53 0) 54 0) 55 0) 20 0 := ⟨_, rfl⟩
  have iA : ∀ j : Nat, j ≠ 0 → j ≠ 19 → j ≠ 20 → j ≠ 38 → j ≠ 42 → j ≠ 43 → ¬ (53 ≤ j ∧ j ≤ 55) → A.i j = s.i j := fun j q0 q1 q2 q3 q4 q5 q6 => by
    rw [hA]
    exact (if_neg q2).trans ((if_neg (by omega)).trans ((if_neg (by omega)).trans ((if_neg (by omega)).trans ((if_neg q1).trans ((if_neg q5).trans ((if_neg q4).trans ((if_neg q3).trans (if_neg q0))))))))
  have A19 : A.i 19 = 0 := by rw [hA]; rfl
  have A20 : A.i 20 = 0 := by rw [hA]; rfl
  have A38 : A.i 38 = 0 := by rw [hA]; rfl
  have A42 : A.i 42 = 0 := by rw [hA]; rfl
  have A43 : A.i 43 = 0 := by rw [hA]; rfl
  have aA : A.a = s.a := by rw [hA]; rfl
  have bA : A.b = s.b := by rw [hA]; rfl
  rw [← hA]
  clear hA
  obtain ⟨B, hB⟩ : ∃ B, B = RS.setI (RS.setI (RS.setI (RS.setI (RS.setI (RS.setI (RS.setI (RS.setI (RS.setI (RS.setI A 24 0) 29 0) 33 0) 56 0) 59 0) 52 0) 12 0) 15 0) 18 (-1)) 17 0 := ⟨_, rfl⟩
  have iB : ∀ j : Nat, j ≠ 12 → j ≠ 15 → j ≠ 17 → j ≠ 18 → j ≠ 24 → j ≠ 29 → j ≠ 33 → j ≠ 52 → j ≠ 56 → j ≠ 59 → B.i j = A.i j := fun j q0 q1 q2 q3 q4 q5 q6 q7 q8 q9 => by
    rw [hB]
    exact (if_neg q2).trans ((if_neg q3).trans ((if_neg q1).trans ((if_neg q0).trans ((if_neg q7).trans ((if_neg q9).trans ((if_neg q8).trans ((if_neg q6).trans ((if_neg q5).trans (if_neg q4)))))))))
  have B12 : B.i 12 = 0 := by rw [hB]; rfl
  have B15 : B.i 15 = 0 := by rw [hB]; rfl
  have B17 : B.i 17 = 0 := by rw [hB]; rfl
  have B24 : B.i 24 = 0 := by rw [hB]; rfl
  have B29 : B.i 29 = 0 := by rw [hB]; rfl
  have B33 : B.i 33 = 0 := by rw [hB]; rfl
  have B52 : B.i 52 = 0 := by rw [hB]; rfl
  have B56 : B.i 56 = 0 := by rw [hB]; rfl
  have B59 : B.i 59 = 0 := by rw [hB]; rfl
  have aB : B.a = s.a := by rw [hB]; exact aA
  have bB : B.b = s.b := by rw [hB]; exact bA
  rw [← hB]
  clear hB
  have B38 : B.i 38 = 0 := by rw [iB 38 (by decide) (by decide) (by decide) (by decide) (by decide) (by decide) (by decide) (by decide) (by decide) (by decide)]; exact A38
  have B42 : B.i 42 = 0 := by rw [iB 42 (by decide) (by decide) (by decide) (by decide) (by decide) (by decide) (by decide) (by decide) (by decide) (by decide)]; exact A42
  have seB : seI B = 0 := by unfold seI; rw [B38]; exact z_t0
  have slB : slI B = 0 := by unfold slI; rw [B42]; exact z_t0
  rw [p_se (N := N) 97 (Or.inl rfl) (by omega) (by omega)]
  show ok ((f_X12_see N (SE B 97 0) 98 0).bind fun p3 => (f_X12_next N p3.2).bind fun p5 => (f_X12_parse N p5).bind fun p7 => (if (p7.i 10) = 0 then (f_X12_can N p7 1).bind fun p19 => f_X12_read_138 N p19.2 else (f_X12_can N p7 0).bind fun p10 => f_X12_read_138 N p10.2)) _
  obtain ⟨C, hC⟩ : ∃ C, C = SE B 97 0 := ⟨_, rfl⟩
  have iC : ∀ j : Nat, j ≠ 38 → j ≠ 42 → C.i j = B.i j := fun j q1 q2 => by rw [hC]; exact SE.eI q1 q2
  have aC : ∀ k : Nat, k ≠ 40 → k ≠ 41 → C.a k = s.a k := fun k q1 q2 => by rw [hC, SE.eA q1 q2, aB]
  have n0 : (B.i 38).toNatClampNeg = 0 := by rw [B38]; decide
  have C40 : C.a 40 0 = 0 := by
    have e := SE.a40 (u := B) (n := 97) (c := 0)
    rw [n0, B42] at e
    rw [hC]; exact e
  have C41 : C.a 41 0 = 0 := by
    have e := SE.a41 (u := B) (n := 97) (c := 0)
    rw [n0] at e
    rw [hC]; exact e
  have seC : seI C = 1 := by rw [hC, SE.eSE (by omega) (by omega)]; omega
  have slC : slI C = 1 := by rw [hC, SE.eSL (by omega) (by omega)]; omega
  have C38 : C.i 38 = 1 := by
    rw [hC]; show B.i 38 + 1 = 1; rw [B38]; decide
  have C42 : C.i 42 = 1 := by
    rw [hC]; show B.i 42 + 1 = 1; rw [B42]; decide
  have bC : C.b 9 = s.b 9 := by rw [hC, ← bB]; rfl
  rw [← hC]
  clear hC
  rw [p_se (N := N) 98 (Or.inl rfl) (by omega) (by omega)]
  show ok ((f_X12_next N (SE C 98 0)).bind fun p5 => (f_X12_parse N p5).bind fun p7 => (if (p7.i 10) = 0 then (f_X12_can N p7 1).bind fun p19 => f_X12_read_138 N p19.2 else (f_X12_can N p7 0).bind fun p10 => f_X12_read_138 N p10.2)) _
  obtain ⟨D, hD⟩ : ∃ D, D = SE C 98 0 := ⟨_, rfl⟩
  have iD : ∀ j : Nat, j ≠ 38 → j ≠ 42 → D.i j = B.i j := fun j q1 q2 => by rw [hD, SE.eI q1 q2]; exact iC j q1 q2
  have aD : ∀ k : Nat, k ≠ 40 → k ≠ 41 → D.a k = s.a k := fun k q1 q2 => by rw [hD, SE.eA q1 q2]; exact aC k q1 q2
  have n1 : (C.i 38).toNatClampNeg = 1 := by rw [C38]; decide
  have D40 : D.a 40 1 = 1 := by
    have e := SE.a40 (u := C) (n := 98) (c := 0)
    rw [n1, C42] at e
    rw [hD]; exact e
  have D41 : D.a 41 1 = 0 := by
    have e := SE.a41 (u := C) (n := 98) (c := 0)
    rw [n1] at e
    rw [hD]; exact e
  have D400 : D.a 40 0 = 0 := by rw [hD, SE.lo (by rw [n1]; decide)]; exact C40
  have D410 : D.a 41 0 = 0 := by rw [hD, SE.lo (by rw [n1]; decide)]; exact C41
  have seD : seI D = 2 := by rw [hD, SE.eSE (by omega) (by omega)]; omega
  have slD : slI D = 2 := by rw [hD, SE.eSL (by omega) (by omega)]; omega
  have bD : D.b 9 = s.b 9 := by rw [hD, ← bC]; rfl
  rw [← hD]
  clear hD
  have iDs : ∀ j : Nat, (0 < j ∧ j < 10) ∨ 75 ≤ j → D.i j = s.i j := fun j hj => by
    rw [iD j (by omega) (by omega), iB j (by omega) (by omega) (by omega) (by omega) (by omega) (by omega) (by omega) (by omega) (by omega) (by omega), iA j (by omega) (by omega) (by omega) (by omega) (by omega) (by omega) (by omega)]
  have D2 : D.i 2 = s.i 2 := iDs 2 (by omega)
  have D12 : D.i 12 = 0 := (iD 12 (by decide) (by decide)).trans B12
  have D15 : D.i 15 = 0 := (iD 15 (by decide) (by decide)).trans B15
  have D17 : D.i 17 = 0 := (iD 17 (by decide) (by decide)).trans B17
  have wD : WD D := fun k hk => by rw [bD]; exact h3 k hk
  refine ok_bind (p_next (by omega) D (by rw [D12]; decide) (by rw [D12, D2]; exact h1.1.1) (by rw [D2]; exact h1.1.2) wD) (fun R hR => ?_)
  rcases hR with ⟨c, -⟩ | ⟨-, ⟨⟨u1, u2, u3⟩, t1, t2, t3, t4, t5, t6, t7, t8, t9⟩, hf⟩
  · exact absurd D15 c
  have iR : ∀ j : Nat, j ≠ 10 → j ≠ 11 → j ≠ 12 → j ≠ 14 → j ≠ 17 → R.i j = D.i j := fun j q1 q2 q3 q4 q5 => (u1 j q1 q2 q3 q4).trans (if_neg q5)
  have R17 : R.i 17 = 1 := by
    rw [u1 17 (by decide) (by decide) (by decide) (by decide)]
    show D.i 17 + 1 = 1
    rw [D17]; decide
  have aR : R.a = D.a := u2
  have bR : R.b = D.b := u3
  have R2 : R.i 2 = s.i 2 := (iR 2 (by decide) (by decide) (by decide) (by decide) (by decide)).trans D2
  have R3 : R.i 3 = s.i 3 := (iR 3 (by decide) (by decide) (by decide) (by decide) (by decide)).trans (iDs 3 (by omega))
  have wR : WD R := fun k hk => by rw [bR, bD]; exact h3 k hk
  have lR : LXI R := ⟨t1, t2, t3, by rw [R2]; exact h1.1.2, t4, t5, t6, t7, t8, wR, t9⟩
  have fR := lR.f0
  have iRB : ∀ j : Nat, 18 ≤ j → j ≠ 38 → j ≠ 42 → R.i j = B.i j := fun j q1 q2 q3 => (iR j (by omega) (by omega) (by omega) (by omega) (by omega)).trans (iD j q2 q3)
  have iRA : ∀ j : Nat, 18 < j → j ≠ 24 → j ≠ 29 → j ≠ 33 → j ≠ 38 → j ≠ 42 → j ≠ 52 → j ≠ 56 → j ≠ 59 → R.i j = A.i j := fun j q1 q2 q3 q4 q5 q6 q7 q8 q9 => (iRB j (by omega) q5 q6).trans (iB j (by omega) (by omega) (by omega) (by omega) q2 q3 q4 q7 q8 q9)
  have rd : RD0 R := by
    refine ⟨lR, RB.of R2 R3 (by rw [aR, aD 4 (by decide) (by decide)]) (by rw [aR, aD 6 (by decide) (by decide)]) (by rw [aR, aD 7 (by decide) (by decide)]) h1, (iR 15 (by decide) (by decide) (by decide) (by decide) (by decide)).trans D15, ?_, ⟨(iRA 19 (by decide) (by decide) (by decide) (by decide) (by decide) (by decide) (by decide) (by decide) (by decide)).trans A19, (iRA 20 (by decide) (by decide) (by decide) (by decide) (by decide) (by decide) (by decide) (by decide) (by decide)).trans A20, (iRB 24 (by decide) (by decide) (by decide)).trans B24, (iRB 29 (by decide) (by decide) (by decide)).trans B29, (iRB 33 (by decide) (by decide) (by decide)).trans B33, (iRA 43 (by decide) (by decide) (by decide) (by decide) (by decide) (by decide) (by decide) (by decide) (by decide)).trans A43, (iRB 52 (by decide) (by decide) (by decide)).trans B52, (iRB 56 (by decide) (by decide) (by decide)).trans B56, (iRB 59 (by decide) (by decide) (by decide)).trans B59⟩, ⟨?_, ?_⟩, fun x hx => ?_, ?_⟩
    · rw [iR 75 (by decide) (by decide) (by decide) (by decide) (by decide), iDs 75 (by omega)]; exact h4
    · rw [← seD]; unfold seI; rw [iR 38 (by decide) (by decide) (by decide) (by decide) (by decide)]
    · rw [← slD]; unfold slI; rw [iR 42 (by decide) (by decide) (by decide) (by decide) (by decide)]
    · unfold gv
      rw [aR]
      have e1 : (1 : Int32).toInt = 1 := by decide
      rcases Nat.lt_or_ge x 1 with q | q
      · have e : x = 0 := by omega
        rw [e, D400, D410, z_t0]
        exact ⟨by omega, by omega, rfl⟩
      · have e : x = 1 := by omega
        rw [e, D40, D41, e1]
        exact ⟨by omega, by omega, rfl⟩
    · have e1 : (1 : Int32).toInt = 1 := by decide
      unfold tkI
      rw [R17, e1]
      omega
  have iRs : ∀ j : Nat, (0 < j ∧ j < 10) ∨ 76 ≤ j → R.i j = s.i j := fun j hj => (iR j (by omega) (by omega) (by omega) (by omega) (by omega)).trans (iDs j (by omega))
  have aRs : ∀ k : Nat, k ≠ 40 → k ≠ 41 → R.a k = s.a k := fun k q1 q2 => by rw [aR]; exact aD k q1 q2
  have bRs : R.b 9 = s.b 9 := by rw [bR]; exact bD
  clear iA iB iC iD iDs aD aC aB aA iR iRB iRA
  refine ok_bind (p_parse hN rd) (fun p hp => ?_)
  obtain ⟨⟨k1, k2, k3⟩, p75, pw⟩ := hp
  have fin : ∀ x : Int32, ok ((f_X12_can N p x).bind fun p19 => f_X12_read_138 N p19.2) (fun R => RI R.2) := fun x => by
    refine ok_bind p_can2 (fun q hq => ?_)
    obtain ⟨q1, q2, q3, q4⟩ := hq
    refine ok_imp (p_138 (by rw [q1 75 (by decide) (by decide)]; exact p75)) (fun T hT => ?_)
    obtain ⟨y1, y2, y3, y4, y5, y6⟩ := hT
    have iT : ∀ j : Nat, (j < 76 ∨ 82 ≤ j) → j ≠ 2 → j ≠ 15 → j ≠ 16 → T.2.i j = p.i j := fun j z1 z2 z3 z4 => (y1 j z1 z2 z3 z4).trans (q1 j z3 z4)
    have aT : T.2.a = p.a := y2.trans q2
    have iTs : ∀ j : Nat, ((0 < j ∧ j < 10) ∨ 82 ≤ j) → j ≠ 2 → T.2.i j = s.i j := fun j z1 z2 => (iT j (by omega) z2 (by omega) (by omega)).trans ((k1 j (by omega)).trans (iRs j (by omega)))
    have aTs : ∀ k : Nat, k < 10 ∨ 76 ≤ k → T.2.a k = s.a k := fun k hk => by rw [aT, k2 k hk, aRs k (by omega) (by omega)]
    have T3 : T.2.i 3 = s.i 3 := iTs 3 (by omega) (by decide)
    refine ⟨⟨⟨by rw [y4]; decide, by rw [y4]; decide⟩, ?_⟩, ⟨⟨by rw [y5]; decide, by rw [y5]; decide⟩, ?_, ?_, ?_⟩, fun k hk => ?_, ?_, fun z => ?_⟩
    · have := h1.2
      rw [T3, aTs 4 (by omega), aTs 6 (by omega), aTs 7 (by omega)]
      exact this
    · rw [iTs 115 (by omega) (by decide), iTs 114 (by omega) (by decide)]; exact h2.2.1
    · have := h2.2.2.1
      unfold gv at this ⊢
      rw [aTs 88 (by omega)]; exact this
    · have := h2.2.2.2
      unfold gv at this ⊢
      rw [aTs 86 (by omega), T3]; exact this
    · rw [y3, q3, k3, bRs]; exact h3 k hk
    · rw [iT 75 (by omega) (by decide) (by decide) (by decide)]; exact p75
    · obtain ⟨z1, z2⟩ := y6 z
      have e := q4 z1
      rw [e] at z1 z2
      obtain ⟨g, hg⟩ := pw z1 (fun z3 => absurd z3 (by
        have := lt_int z2
        intro z3
        have := le_int z3
        omega))
      refine ⟨g, hg.eqw ⟨⟨?_, ?_, ?_, ?_, ?_⟩, fun k _ _ => by rw [aT]⟩⟩
      · exact iT 20 (by omega) (by decide) (by decide) (by decide)
      · exact iT 24 (by omega) (by decide) (by decide) (by decide)
      · exact iT 29 (by omega) (by decide) (by decide) (by decide)
      · exact iT 33 (by omega) (by decide) (by decide) (by decide)
      · exact iT 3 (by omega) (by decide) (by decide) (by decide)
  exact ok_ite (fun _ => fin 1) (fun _ => fin 0)
theorem RI.rk {s t : RS} (h : RI s) (hb : RB t) (e : RK s t) : RI t := by
  obtain ⟨h1, h2, h3, h4, h5⟩ := h
  have i3 := le_int e.2.2.2.2
  refine ⟨hb, ⟨?_, ?_, ?_, fun x hx => ?_⟩, fun k hk => by rw [e.2.2.1]; exact h3 k hk, by rw [e.1 75 (by decide) (by decide) (by decide) (by decide)]; exact h4, fun z => ?_⟩
  · rw [e.1 81 (by decide) (by decide) (by decide) (by decide)]; exact h2.1
  · rw [e.1 115 (by decide) (by decide) (by decide) (by decide), e.1 114 (by decide) (by decide) (by decide) (by decide)]; exact h2.2.1
  · have := h2.2.2.1
    unfold gv at this ⊢
    rw [e.2.1 88 (by decide) (by decide) (by decide) (by decide) (by decide)]; exact this
  · have := h2.2.2.2 x hx
    unfold gv at this ⊢
    rw [e.2.1 86 (by decide) (by decide) (by decide) (by decide) (by decide)]
    omega
  · obtain ⟨g, hg⟩ := h5 (by rw [← e.1 77 (by decide) (by decide) (by decide) (by decide)]; exact z)
    exact ⟨g, hg.rk e⟩
theorem RI.i0 {s : RS} (h : RI s) (v : Int32) : RI (s.setI 0 v) := h.rk (h.1.i0 v) (RK.i0 s v)
theorem q_run {N : Nat} (hN : 10000000000 ≤ N) {s : RS} (x1 x2 : Int32) (h : RI s) : ok (f_X12_run N s x1 x2) (fun R => RI R.2) := by
  refine ok_imp (p_run hN s x1 x2 h.1 h.2.1 h.2.2.2.2) (fun R hR => ?_)
  rcases hR with ⟨-, e⟩ | ⟨c, a1, a2, a3, a4, a5, a6, a7⟩
  · rw [e]; exact h.i0 0
  have h' := h.i0 0
  obtain ⟨h1, h2, h3, h4, h5⟩ := h'
  refine ⟨a6, a7, fun k hk => by rw [a3]; exact h3 k hk, by rw [a1 75 (by decide)]; exact h4, fun z => ?_⟩
  obtain ⟨g, hg⟩ := h5 (by rw [← a1 77 (by decide)]; exact z)
  exact ⟨g, hg.eqw ⟨⟨a1 20 (by decide), a1 24 (by decide), a1 29 (by decide), a1 33 (by decide), a1 3 (by decide)⟩, fun k _ _ => a4 k (by omega)⟩⟩
theorem q_ran {N : Nat} (hN : 1000 ≤ N) {s : RS} (x1 : Int32) (h : RI s) : ok (f_X12_ran N s x1) (fun R => RI R.2) := ok_imp (p_ran hN s x1 h.2.1) (fun R e => by rw [e]; exact h.i0 0)
theorem q_trace {N : Nat} {s : RS} (x1 x2 : Int32) (h : RI s) : ok (f_X12_trace N s x1 x2) (fun R => RI R.2) := ok_imp (p_trace N s x1 x2 h.2.1) (fun R e => by rw [e]; exact h.i0 0)
theorem q_suppressed {N : Nat} {s : RS} (x1 x2 : Int32) (h : RI s) : ok (f_X12_suppressed N s x1 x2) (fun R => RI R.2) := ok_imp (p_suppressed N s x1 x2 h.2.1) (fun R e => by rw [e]; exact h.i0 0)
theorem q_cut {N : Nat} {s : RS} (x1 : Int32) (h : RI s) : ok (f_X12_cut N s x1) (fun R => RI R.2) := ok_imp (p_cut N s x1 h.1) (fun R e => h.rk e.1 e.2)
theorem q_under {N : Nat} (hN : 100 ≤ N) {s : RS} (x1 x2 : Int32) (h : RI s) : ok (f_X12_under N s x1 x2) (fun R => RI R.2) := ok_imp (p_under hN s x1 x2 h.1) (fun R e => h.rk e.1 e.2)
theorem q_kind {N : Nat} {s : RS} (x1 : Int32) (h : RI s) : ok (f_X12_kind N s x1) (fun R => RI R.2) := ok_imp (p_kind N s x1 h.1) (fun R e => h.rk e.1 e.2)
theorem q_resource {N : Nat} {s : RS} (x1 x2 x3 x4 : Int32) (h : RI s) : ok (f_X12_resource N s x1 x2 x3 x4) (fun R => RI R.2) := ok_imp (p_resource N s x1 x2 x3 x4 h.1) (fun R e => h.rk e.1 e.2)
theorem q_asserts {N : Nat} {s : RS} (x1 : Int32) (hx : x1 = 0 ∨ x1 = 1) (h : RI s) : ok (f_X12_asserts N s x1) (fun R => RI R.2) := ok_imp (p_asserts N s x1 h.1 hx) (fun R e => h.rk e.1 e.2)
theorem q_fault {N : Nat} {s : RS} (h : RI s) : ok (f_X12_fault N s) (fun R => RI R.2) := ok_imp (p_fault N s h.1) (fun R e => h.rk e.1 e.2)
theorem q_program {N : Nat} {s : RS} (x1 : Int32) (h : RI s) : ok (f_X12_program N s x1) (fun R => RI R.2) := ok_imp (p_program N s x1 h.1) (fun R e => h.rk e.1 e.2)
theorem q_feed {N : Nat} (hN : 100 ≤ N) {s : RS} (x1 x2 x3 x4 x5 : Int32) (h : RI s) : ok (f_X12_feed N s x1 x2 x3 x4 x5) (fun R => RI R.2) := ok_imp (p_feed hN s x1 x2 x3 x4 x5 h.1) (fun R e => h.rk e.1 e.2)
end
section
/-! the class: one step of its state -/
theorem chs_setI (s : CS) (k : Nat) (v : Int32) : (CS.setI s k v).hs = s.hs := rfl
theorem cl_setI (s : CS) (k : Nat) (v : Int32) : (CS.setI s k v).l = s.l := rfl
theorem ca_setI (s : CS) (k : Nat) (v : Int32) : (CS.setI s k v).a = s.a := rfl
theorem cb_setI (s : CS) (k : Nat) (v : Int32) : (CS.setI s k v).b = s.b := rfl
theorem cr_setI (s : CS) (k : Nat) (v : Int32) : (CS.setI s k v).r = s.r := rfl
theorem cw_setI (s : CS) (k : Nat) (v : Int32) : (CS.setI s k v).w = s.w := rfl
theorem cL_setI (s : CS) (k : Nat) (v : Int32) : (CS.setI s k v).L = s.L := rfl
theorem ck_setI (s : CS) (k : Nat) (v : Int32) : (CS.setI s k v).k = s.k := rfl
theorem co_setI (s : CS) (k : Nat) (v : Int32) : (CS.setI s k v).o = s.o := rfl
theorem col_setI (s : CS) (k : Nat) (v : Int32) : (CS.setI s k v).ol = s.ol := rfl
theorem cot_setI (s : CS) (k : Nat) (v : Int32) : (CS.setI s k v).ot = s.ot := rfl
theorem coa_setI (s : CS) (k : Nat) (v : Int32) : (CS.setI s k v).oa = s.oa := rfl
theorem chs_setL (s : CS) (v : Int64) : (CS.setL s v).hs = s.hs := rfl
theorem ci_setL (s : CS) (v : Int64) : (CS.setL s v).i = s.i := rfl
theorem ca_setL (s : CS) (v : Int64) : (CS.setL s v).a = s.a := rfl
theorem cb_setL (s : CS) (v : Int64) : (CS.setL s v).b = s.b := rfl
theorem cr_setL (s : CS) (v : Int64) : (CS.setL s v).r = s.r := rfl
theorem cw_setL (s : CS) (v : Int64) : (CS.setL s v).w = s.w := rfl
theorem cL_setL (s : CS) (v : Int64) : (CS.setL s v).L = s.L := rfl
theorem ck_setL (s : CS) (v : Int64) : (CS.setL s v).k = s.k := rfl
theorem co_setL (s : CS) (v : Int64) : (CS.setL s v).o = s.o := rfl
theorem col_setL (s : CS) (v : Int64) : (CS.setL s v).ol = s.ol := rfl
theorem cot_setL (s : CS) (v : Int64) : (CS.setL s v).ot = s.ot := rfl
theorem coa_setL (s : CS) (v : Int64) : (CS.setL s v).oa = s.oa := rfl
theorem chs_setA (s : CS) (k j : Nat) (v : Int32) : (CS.setA s k j v).hs = s.hs := rfl
theorem ci_setA (s : CS) (k j : Nat) (v : Int32) : (CS.setA s k j v).i = s.i := rfl
theorem cl_setA (s : CS) (k j : Nat) (v : Int32) : (CS.setA s k j v).l = s.l := rfl
theorem cb_setA (s : CS) (k j : Nat) (v : Int32) : (CS.setA s k j v).b = s.b := rfl
theorem cr_setA (s : CS) (k j : Nat) (v : Int32) : (CS.setA s k j v).r = s.r := rfl
theorem cw_setA (s : CS) (k j : Nat) (v : Int32) : (CS.setA s k j v).w = s.w := rfl
theorem cL_setA (s : CS) (k j : Nat) (v : Int32) : (CS.setA s k j v).L = s.L := rfl
theorem ck_setA (s : CS) (k j : Nat) (v : Int32) : (CS.setA s k j v).k = s.k := rfl
theorem co_setA (s : CS) (k j : Nat) (v : Int32) : (CS.setA s k j v).o = s.o := rfl
theorem col_setA (s : CS) (k j : Nat) (v : Int32) : (CS.setA s k j v).ol = s.ol := rfl
theorem cot_setA (s : CS) (k j : Nat) (v : Int32) : (CS.setA s k j v).ot = s.ot := rfl
theorem coa_setA (s : CS) (k j : Nat) (v : Int32) : (CS.setA s k j v).oa = s.oa := rfl
theorem chs_putA (s : CS) (k : Nat) (f : Nat → Int32) : (CS.putA s k f).hs = s.hs := rfl
theorem ci_putA (s : CS) (k : Nat) (f : Nat → Int32) : (CS.putA s k f).i = s.i := rfl
theorem cl_putA (s : CS) (k : Nat) (f : Nat → Int32) : (CS.putA s k f).l = s.l := rfl
theorem cb_putA (s : CS) (k : Nat) (f : Nat → Int32) : (CS.putA s k f).b = s.b := rfl
theorem cr_putA (s : CS) (k : Nat) (f : Nat → Int32) : (CS.putA s k f).r = s.r := rfl
theorem cw_putA (s : CS) (k : Nat) (f : Nat → Int32) : (CS.putA s k f).w = s.w := rfl
theorem cL_putA (s : CS) (k : Nat) (f : Nat → Int32) : (CS.putA s k f).L = s.L := rfl
theorem ck_putA (s : CS) (k : Nat) (f : Nat → Int32) : (CS.putA s k f).k = s.k := rfl
theorem co_putA (s : CS) (k : Nat) (f : Nat → Int32) : (CS.putA s k f).o = s.o := rfl
theorem col_putA (s : CS) (k : Nat) (f : Nat → Int32) : (CS.putA s k f).ol = s.ol := rfl
theorem cot_putA (s : CS) (k : Nat) (f : Nat → Int32) : (CS.putA s k f).ot = s.ot := rfl
theorem coa_putA (s : CS) (k : Nat) (f : Nat → Int32) : (CS.putA s k f).oa = s.oa := rfl
theorem chs_setB (s : CS) (k j : Nat) (v : Int64) : (CS.setB s k j v).hs = s.hs := rfl
theorem ci_setB (s : CS) (k j : Nat) (v : Int64) : (CS.setB s k j v).i = s.i := rfl
theorem cl_setB (s : CS) (k j : Nat) (v : Int64) : (CS.setB s k j v).l = s.l := rfl
theorem ca_setB (s : CS) (k j : Nat) (v : Int64) : (CS.setB s k j v).a = s.a := rfl
theorem cr_setB (s : CS) (k j : Nat) (v : Int64) : (CS.setB s k j v).r = s.r := rfl
theorem cw_setB (s : CS) (k j : Nat) (v : Int64) : (CS.setB s k j v).w = s.w := rfl
theorem cL_setB (s : CS) (k j : Nat) (v : Int64) : (CS.setB s k j v).L = s.L := rfl
theorem ck_setB (s : CS) (k j : Nat) (v : Int64) : (CS.setB s k j v).k = s.k := rfl
theorem co_setB (s : CS) (k j : Nat) (v : Int64) : (CS.setB s k j v).o = s.o := rfl
theorem col_setB (s : CS) (k j : Nat) (v : Int64) : (CS.setB s k j v).ol = s.ol := rfl
theorem cot_setB (s : CS) (k j : Nat) (v : Int64) : (CS.setB s k j v).ot = s.ot := rfl
theorem coa_setB (s : CS) (k j : Nat) (v : Int64) : (CS.setB s k j v).oa = s.oa := rfl
theorem chs_setR (s : CS) (k j : Nat) (v : Option Nat) : (CS.setR s k j v).hs = s.hs := rfl
theorem ci_setR (s : CS) (k j : Nat) (v : Option Nat) : (CS.setR s k j v).i = s.i := rfl
theorem cl_setR (s : CS) (k j : Nat) (v : Option Nat) : (CS.setR s k j v).l = s.l := rfl
theorem ca_setR (s : CS) (k j : Nat) (v : Option Nat) : (CS.setR s k j v).a = s.a := rfl
theorem cb_setR (s : CS) (k j : Nat) (v : Option Nat) : (CS.setR s k j v).b = s.b := rfl
theorem cw_setR (s : CS) (k j : Nat) (v : Option Nat) : (CS.setR s k j v).w = s.w := rfl
theorem cL_setR (s : CS) (k j : Nat) (v : Option Nat) : (CS.setR s k j v).L = s.L := rfl
theorem ck_setR (s : CS) (k j : Nat) (v : Option Nat) : (CS.setR s k j v).k = s.k := rfl
theorem co_setR (s : CS) (k j : Nat) (v : Option Nat) : (CS.setR s k j v).o = s.o := rfl
theorem col_setR (s : CS) (k j : Nat) (v : Option Nat) : (CS.setR s k j v).ol = s.ol := rfl
theorem cot_setR (s : CS) (k j : Nat) (v : Option Nat) : (CS.setR s k j v).ot = s.ot := rfl
theorem coa_setR (s : CS) (k j : Nat) (v : Option Nat) : (CS.setR s k j v).oa = s.oa := rfl
theorem chs_setW (s : CS) (v : Option Nat) : (CS.setW s v).hs = s.hs := rfl
theorem ci_setW (s : CS) (v : Option Nat) : (CS.setW s v).i = s.i := rfl
theorem cl_setW (s : CS) (v : Option Nat) : (CS.setW s v).l = s.l := rfl
theorem ca_setW (s : CS) (v : Option Nat) : (CS.setW s v).a = s.a := rfl
theorem cb_setW (s : CS) (v : Option Nat) : (CS.setW s v).b = s.b := rfl
theorem cr_setW (s : CS) (v : Option Nat) : (CS.setW s v).r = s.r := rfl
theorem cL_setW (s : CS) (v : Option Nat) : (CS.setW s v).L = s.L := rfl
theorem ck_setW (s : CS) (v : Option Nat) : (CS.setW s v).k = s.k := rfl
theorem co_setW (s : CS) (v : Option Nat) : (CS.setW s v).o = s.o := rfl
theorem col_setW (s : CS) (v : Option Nat) : (CS.setW s v).ol = s.ol := rfl
theorem cot_setW (s : CS) (v : Option Nat) : (CS.setW s v).ot = s.ot := rfl
theorem coa_setW (s : CS) (v : Option Nat) : (CS.setW s v).oa = s.oa := rfl
theorem chs_setO (s : CS) (x k : Nat) (v : Int32) : (CS.setO s x k v).hs = s.hs := rfl
theorem ci_setO (s : CS) (x k : Nat) (v : Int32) : (CS.setO s x k v).i = s.i := rfl
theorem cl_setO (s : CS) (x k : Nat) (v : Int32) : (CS.setO s x k v).l = s.l := rfl
theorem ca_setO (s : CS) (x k : Nat) (v : Int32) : (CS.setO s x k v).a = s.a := rfl
theorem cb_setO (s : CS) (x k : Nat) (v : Int32) : (CS.setO s x k v).b = s.b := rfl
theorem cr_setO (s : CS) (x k : Nat) (v : Int32) : (CS.setO s x k v).r = s.r := rfl
theorem cw_setO (s : CS) (x k : Nat) (v : Int32) : (CS.setO s x k v).w = s.w := rfl
theorem cL_setO (s : CS) (x k : Nat) (v : Int32) : (CS.setO s x k v).L = s.L := rfl
theorem ck_setO (s : CS) (x k : Nat) (v : Int32) : (CS.setO s x k v).k = s.k := rfl
theorem col_setO (s : CS) (x k : Nat) (v : Int32) : (CS.setO s x k v).ol = s.ol := rfl
theorem cot_setO (s : CS) (x k : Nat) (v : Int32) : (CS.setO s x k v).ot = s.ot := rfl
theorem coa_setO (s : CS) (x k : Nat) (v : Int32) : (CS.setO s x k v).oa = s.oa := rfl
theorem chs_setOl (s : CS) (x : Nat) (v : Int64) : (CS.setOl s x v).hs = s.hs := rfl
theorem ci_setOl (s : CS) (x : Nat) (v : Int64) : (CS.setOl s x v).i = s.i := rfl
theorem cl_setOl (s : CS) (x : Nat) (v : Int64) : (CS.setOl s x v).l = s.l := rfl
theorem ca_setOl (s : CS) (x : Nat) (v : Int64) : (CS.setOl s x v).a = s.a := rfl
theorem cb_setOl (s : CS) (x : Nat) (v : Int64) : (CS.setOl s x v).b = s.b := rfl
theorem cr_setOl (s : CS) (x : Nat) (v : Int64) : (CS.setOl s x v).r = s.r := rfl
theorem cw_setOl (s : CS) (x : Nat) (v : Int64) : (CS.setOl s x v).w = s.w := rfl
theorem cL_setOl (s : CS) (x : Nat) (v : Int64) : (CS.setOl s x v).L = s.L := rfl
theorem ck_setOl (s : CS) (x : Nat) (v : Int64) : (CS.setOl s x v).k = s.k := rfl
theorem co_setOl (s : CS) (x : Nat) (v : Int64) : (CS.setOl s x v).o = s.o := rfl
theorem cot_setOl (s : CS) (x : Nat) (v : Int64) : (CS.setOl s x v).ot = s.ot := rfl
theorem coa_setOl (s : CS) (x : Nat) (v : Int64) : (CS.setOl s x v).oa = s.oa := rfl
theorem chs_setOt (s : CS) (x : Nat) (v : Option Nat) : (CS.setOt s x v).hs = s.hs := rfl
theorem ci_setOt (s : CS) (x : Nat) (v : Option Nat) : (CS.setOt s x v).i = s.i := rfl
theorem cl_setOt (s : CS) (x : Nat) (v : Option Nat) : (CS.setOt s x v).l = s.l := rfl
theorem ca_setOt (s : CS) (x : Nat) (v : Option Nat) : (CS.setOt s x v).a = s.a := rfl
theorem cb_setOt (s : CS) (x : Nat) (v : Option Nat) : (CS.setOt s x v).b = s.b := rfl
theorem cr_setOt (s : CS) (x : Nat) (v : Option Nat) : (CS.setOt s x v).r = s.r := rfl
theorem cw_setOt (s : CS) (x : Nat) (v : Option Nat) : (CS.setOt s x v).w = s.w := rfl
theorem cL_setOt (s : CS) (x : Nat) (v : Option Nat) : (CS.setOt s x v).L = s.L := rfl
theorem ck_setOt (s : CS) (x : Nat) (v : Option Nat) : (CS.setOt s x v).k = s.k := rfl
theorem co_setOt (s : CS) (x : Nat) (v : Option Nat) : (CS.setOt s x v).o = s.o := rfl
theorem col_setOt (s : CS) (x : Nat) (v : Option Nat) : (CS.setOt s x v).ol = s.ol := rfl
theorem coa_setOt (s : CS) (x : Nat) (v : Option Nat) : (CS.setOt s x v).oa = s.oa := rfl
theorem chs_putOA (s : CS) (x : Nat) (f : Nat → Int32) : (CS.putOA s x f).hs = s.hs := rfl
theorem ci_putOA (s : CS) (x : Nat) (f : Nat → Int32) : (CS.putOA s x f).i = s.i := rfl
theorem cl_putOA (s : CS) (x : Nat) (f : Nat → Int32) : (CS.putOA s x f).l = s.l := rfl
theorem ca_putOA (s : CS) (x : Nat) (f : Nat → Int32) : (CS.putOA s x f).a = s.a := rfl
theorem cb_putOA (s : CS) (x : Nat) (f : Nat → Int32) : (CS.putOA s x f).b = s.b := rfl
theorem cr_putOA (s : CS) (x : Nat) (f : Nat → Int32) : (CS.putOA s x f).r = s.r := rfl
theorem cw_putOA (s : CS) (x : Nat) (f : Nat → Int32) : (CS.putOA s x f).w = s.w := rfl
theorem cL_putOA (s : CS) (x : Nat) (f : Nat → Int32) : (CS.putOA s x f).L = s.L := rfl
theorem ck_putOA (s : CS) (x : Nat) (f : Nat → Int32) : (CS.putOA s x f).k = s.k := rfl
theorem co_putOA (s : CS) (x : Nat) (f : Nat → Int32) : (CS.putOA s x f).o = s.o := rfl
theorem col_putOA (s : CS) (x : Nat) (f : Nat → Int32) : (CS.putOA s x f).ol = s.ol := rfl
theorem cot_putOA (s : CS) (x : Nat) (f : Nat → Int32) : (CS.putOA s x f).ot = s.ot := rfl
theorem chs_setK (s : CS) (x t : Nat) : (CS.setK s x t).hs = s.hs := rfl
theorem ci_setK (s : CS) (x t : Nat) : (CS.setK s x t).i = s.i := rfl
theorem cl_setK (s : CS) (x t : Nat) : (CS.setK s x t).l = s.l := rfl
theorem ca_setK (s : CS) (x t : Nat) : (CS.setK s x t).a = s.a := rfl
theorem cb_setK (s : CS) (x t : Nat) : (CS.setK s x t).b = s.b := rfl
theorem cr_setK (s : CS) (x t : Nat) : (CS.setK s x t).r = s.r := rfl
theorem cw_setK (s : CS) (x t : Nat) : (CS.setK s x t).w = s.w := rfl
theorem cL_setK (s : CS) (x t : Nat) : (CS.setK s x t).L = s.L := rfl
theorem co_setK (s : CS) (x t : Nat) : (CS.setK s x t).o = s.o := rfl
theorem col_setK (s : CS) (x t : Nat) : (CS.setK s x t).ol = s.ol := rfl
theorem cot_setK (s : CS) (x t : Nat) : (CS.setK s x t).ot = s.ot := rfl
theorem coa_setK (s : CS) (x t : Nat) : (CS.setK s x t).oa = s.oa := rfl
theorem ci_new (s : CS) (t : Nat) : (CS.new s t).i = s.i := rfl
theorem cl_new (s : CS) (t : Nat) : (CS.new s t).l = s.l := rfl
theorem ca_new (s : CS) (t : Nat) : (CS.new s t).a = s.a := rfl
theorem cb_new (s : CS) (t : Nat) : (CS.new s t).b = s.b := rfl
theorem cr_new (s : CS) (t : Nat) : (CS.new s t).r = s.r := rfl
theorem cw_new (s : CS) (t : Nat) : (CS.new s t).w = s.w := rfl
theorem ci_at (s : CS) (k : Nat) (v : Int32) : (CS.setI s k v).i k = v := if_pos rfl
theorem ci_ne (s : CS) (k : Nat) (v : Int32) {j : Nat} (h : j ≠ k) : (CS.setI s k v).i j = s.i j := if_neg h
theorem ca_put (s : CS) (k : Nat) (f : Nat → Int32) : (CS.putA s k f).a k = f := if_pos rfl
theorem ca_ne (s : CS) (k : Nat) (f : Nat → Int32) {j : Nat} (h : j ≠ k) : (CS.putA s k f).a j = s.a j := if_neg h
theorem cr_at (s : CS) (k j : Nat) (v : Option Nat) : (CS.setR s k j v).r k = va_up (s.r k) j v := if_pos rfl
theorem cr_ne (s : CS) (k j : Nat) (v : Option Nat) {m : Nat} (h : m ≠ k) : (CS.setR s k j v).r m = s.r m := if_neg h
theorem chs_new (s : CS) (t : Nat) : (CS.new s t).hs = s.hs + 1 := rfl
theorem cL_new (s : CS) (t : Nat) : (CS.new s t).L = s.L ++ [s.hs] := rfl
theorem ck_new (s : CS) (t : Nat) : (CS.new s t).k = va_up s.k s.hs t := rfl
theorem ck_set (s : CS) (x t : Nat) : (CS.setK s x t).k = va_up s.k x t := rfl
theorem co_new (s : CS) (t : Nat) {x : Nat} (h : x ≠ s.hs) : (CS.new s t).o x = s.o x := if_neg h
theorem col_new (s : CS) (t : Nat) {x : Nat} (h : x ≠ s.hs) : (CS.new s t).ol x = s.ol x := if_neg h
theorem cot_new (s : CS) (t : Nat) {x : Nat} (h : x ≠ s.hs) : (CS.new s t).ot x = s.ot x := if_neg h
theorem cot_at (s : CS) (x : Nat) (v : Option Nat) : (CS.setOt s x v).ot x = v := if_pos rfl
theorem cot_ne (s : CS) (x : Nat) (v : Option Nat) {y : Nat} (h : y ≠ x) : (CS.setOt s x v).ot y = s.ot y := if_neg h
theorem cw_at (s : CS) (v : Option Nat) : (CS.setW s v).w = v := rfl
end
section
/-! the class: what stands between the calls -/
def szI (s : CS) : Int := (s.i 20).toInt
def tg (s : CS) (t : Int32) : Int32 := gAt (s.a 17) 1024 t
def dpI (s : CS) : Int := (s.i 67).toInt
/-- one of the pool of exceptions -/
def inP (s : CS) (b : Nat) : Prop := ∃ j : Nat, j < 24 ∧ s.r 62 j = some b
/-- the references are as they should be -/
def REFS (s : CS) : Prop := (∀ x ∈ s.L, x < s.hs) ∧ (∀ i a : Nat, i < 400 → s.r 51 i = some a → oK s a 0) ∧ (∀ i j a : Nat, i < 400 → j < 400 → s.r 51 i = some a → s.r 51 j = some a → i = j) ∧ (∀ i a : Nat, i < 24 → s.r 61 i = some a → oK s a 1) ∧ (∀ i j a : Nat, i < 24 → j < 24 → s.r 61 i = some a → s.r 61 j = some a → i = j) ∧ (∀ i a : Nat, i < 24 → s.r 62 i = some a → oK s a 2 ∧ oK s (a + 1) 3 ∧ oK s (a + 2) 3) ∧ (∀ i j a : Nat, i < 24 → j < 24 → s.r 62 i = some a → s.r 62 j = some a → i = j) ∧ (∀ i a b : Nat, i < 24 → s.r 61 i = some a → s.ot a = some b → inP s b) ∧ (∀ b : Nat, s.w = some b → inP s b)
/-- how many are not made yet -/
def nn (f : Nat → Option Nat) : Nat → Nat
  | 0 => 0
  | n + 1 => nn f n + (if f n = none then 1 else 0)
theorem nn.of {f g : Nat → Option Nat} : ∀ {n : Nat}, (∀ i : Nat, i < n → g i = f i) → nn g n = nn f n
  | 0, _ => rfl
  | n + 1, h => by
    show nn g n + (if g n = none then 1 else 0) = nn f n + (if f n = none then 1 else 0)
    rw [nn.of (fun i hi => h i (by omega)), h n (by omega)]
theorem nn.put {f : Nat → Option Nat} {m a : Nat} (hm : f m = none) : ∀ {n : Nat}, m < n → nn (va_up f m (some a)) n + 1 = nn f n
  | 0, h => by omega
  | n + 1, h => by
    show nn (va_up f m (some a)) n + (if va_up f m (some a) n = none then 1 else 0) + 1 = nn f n + (if f n = none then 1 else 0)
    by_cases c : n = m
    · subst c
      have e1 : va_up f n (some a) n = some a := if_pos rfl
      have e2 : nn (va_up f n (some a)) n = nn f n := nn.of (fun i hi => if_neg (by omega))
      rw [e1, e2, hm, if_neg (by intro q; cases q), if_pos rfl]
    · have e1 : va_up f m (some a) n = f n := if_neg c
      rw [e1]
      have := nn.put (a := a) hm (n := n) (by omega)
      omega
/-- all that may still be made, with what is made -/
def ROOM (H : Nat) (s : CS) : Prop := s.hs + nn (s.r 51) 400 + nn (s.r 61) 24 + 3 * nn (s.r 62) 24 = H
/-! the class's code, typed by the frames around each place: 0 lock, 1 body, 2 catches, 3 finally -/
def VN (s : CS) (D : Nat → List Nat) (n : Int) (c : List Nat) : Prop := 0 ≤ n ∧ n ≤ 2000000 ∧ (1200 ≤ n ∨ n < szI s ∧ D n.toNat = c)
def VT (s : CS) (D : Nat → List Nat) (t : Int32) (c : List Nat) : Prop := VN s D (tg s t).toInt c
/-- a try's handler, and its finally if it has one -/
def HND (s : CS) (D : Nat → List Nat) (x : Int32) (c : List Nat) : Prop := VT s D x (2 :: c) ∧ (0 ≤ (tg s (x + 1)).toInt → VT s D (x + 1) (3 :: c))
/-- where a jump out of frames goes -/
def LVT (s : CS) (D : Nat → List Nat) (x : Int32) (c : List Nat) : Prop := ∃ g : Nat, (x - x / 32 * 32).toInt = (g : Int) ∧ g ≤ c.length ∧ VT s D (x / 32) (c.drop (c.length - g))
/-- the frame with that number is in its catches -/
def AT2 (c : List Nat) (x : Int32) : Prop := ∃ i : Nat, x.toInt = (i : Int) ∧ i < c.length ∧ ∃ r q : List Nat, c = r ++ 2 :: q ∧ q.length = i
def INS (s : CS) (D : Nat → List Nat) (p : Nat) : Prop :=
  ((s.a 15 p).toInt < 30 → VN s D ((p : Int) + 1) (D p)) ∧
  ((s.a 15 p).toInt = 30 → VT s D (s.a 16 p) (D p)) ∧
  (31 ≤ (s.a 15 p).toInt → (s.a 15 p).toInt ≤ 35 → VT s D (s.a 16 p) (D p) ∧ VN s D ((p : Int) + 1) (D p)) ∧
  (36 ≤ (s.a 15 p).toInt → (s.a 15 p).toInt < 50 → VN s D ((p : Int) + 1) (D p)) ∧
  (((s.a 15 p).toInt = 51 ∨ (s.a 15 p).toInt = 52 ∨ (s.a 15 p).toInt = 55 ∨ (s.a 15 p).toInt = 57) → VN s D ((p : Int) + 1) (D p)) ∧
  ((s.a 15 p).toInt = 53 → VN s D ((p : Int) + 1) (0 :: D p)) ∧
  ((s.a 15 p).toInt = 54 → VN s D ((p : Int) + 1) (1 :: D p) ∧ HND s D (s.a 16 p) (D p)) ∧
  ((s.a 15 p).toInt = 56 → VT s D (s.a 16 p / 16) (D p) ∧ VN s D ((p : Int) + 1) (D p)) ∧
  ((s.a 15 p).toInt = 58 → ∃ r, D p = 2 :: r) ∧
  ((s.a 15 p).toInt = 59 → ∃ r, D p = 3 :: r) ∧
  ((s.a 15 p).toInt = 60 ∨ (s.a 15 p).toInt = 61 → LVT s D (s.a 16 p) (D p)) ∧
  ((s.a 15 p).toInt = 64 → AT2 (D p) (s.a 16 p)) ∧
  ((s.a 15 p).toInt ≤ 64)
def WTC (s : CS) (D : Nat → List Nat) : Prop := 0 < szI s ∧ D 0 = [] ∧ ∀ p : Nat, p < 1200 → (p : Int) < szI s → INS s D p ∧ (D p).length ≤ 21
/-- the code is the same -/
def CEQ (s R : CS) : Prop := R.a 15 = s.a 15 ∧ R.a 16 = s.a 16 ∧ R.a 17 = s.a 17 ∧ R.i 20 = s.i 20
theorem CEQ.tr {s R T : CS} (h : CEQ s R) (g : CEQ R T) : CEQ s T := ⟨g.1.trans h.1, g.2.1.trans h.2.1, g.2.2.1.trans h.2.2.1, g.2.2.2.trans h.2.2.2⟩
theorem CEQ.vn {s R : CS} (h : CEQ s R) : VN R = VN s := by
  funext D n c; unfold VN szI; rw [h.2.2.2]
theorem CEQ.vt {s R : CS} (h : CEQ s R) : VT R = VT s := by
  funext D t c; unfold VT tg; rw [h.vn, h.2.2.1]
theorem CEQ.hn {s R : CS} (h : CEQ s R) : HND R = HND s := by
  funext D x c; unfold HND; rw [h.vt]; unfold tg; rw [h.2.2.1]
theorem CEQ.lv {s R : CS} (h : CEQ s R) : LVT R = LVT s := by
  funext D x c; unfold LVT; rw [h.vt]
theorem CEQ.ins {s R : CS} (h : CEQ s R) : INS R = INS s := by
  funext D p; unfold INS; rw [h.1, h.2.1, h.vn, h.vt, h.hn, h.lv]
theorem CEQ.wt {s R : CS} (h : CEQ s R) {D : Nat → List Nat} (w : WTC s D) : WTC R D := by
  unfold WTC szI at *; rw [h.ins, h.2.2.2]; exact w
/-- a frame as it should be -/
def FR1 (s : CS) (D : Nat → List Nat) (k : Int) (a ph : Nat) (r : List Nat) : Prop := (0 ≤ (s.o a 3).toInt ∧ (s.o a 3).toInt ≤ k) ∧ (ph = 1 ∨ ph = 2 → HND s D (s.o a 1) r) ∧ (ph = 3 → (s.o a 5 = 1 ∨ s.o a 5 = 2 ∨ s.o a 5 = 3 ∨ s.o a 5 = 4) ∧ (s.o a 5 = 1 ∨ s.o a 5 = 2 → LVT s D (s.o a 7) r) ∧ (s.o a 5 = 3 ∨ s.o a 5 = 4 → s.o a 7 = 0) ∧ (s.o a 5 = 4 → s.ot a ≠ none))
def FRM (s : CS) (D : Nat → List Nat) (k : Int) : List Nat → Prop
  | [] => True
  | ph :: r => (∃ a : Nat, s.r 61 r.length = some a ∧ oK s a 1 ∧ (s.o a 0).toInt = (ph : Int) ∧ FR1 s D k a ph r) ∧ FRM s D k r
/-- frames in their catches hold what they caught -/
def HLD (s : CS) : List Nat → Prop
  | [] => True
  | ph :: r => (ph = 2 → ∃ a b : Nat, s.r 61 r.length = some a ∧ s.ot a = some b) ∧ HLD s r
theorem FRM.of {s R : CS} {D : Nat → List Nat} {k k' : Int} (hc : CEQ s R) (hk : k ≤ k') : ∀ {c : List Nat}, FRM s D k c → (∀ i a : Nat, i < c.length → s.r 61 i = some a → R.r 61 i = some a ∧ (oK s a 1 → oK R a 1) ∧ R.o a = s.o a ∧ R.ot a = s.ot a) → FRM R D k' c
  | [], _, _ => True.intro
  | ph :: r, ⟨⟨a, h1, h2, h3, h4⟩, h5⟩, hf => by
    have e := hf r.length a (by show r.length < r.length + 1; omega) h1
    refine ⟨⟨a, e.1, e.2.1 h2, by rw [e.2.2.1]; exact h3, ?_⟩, FRM.of hc hk h5 (fun i a hi => hf i a (by show i < r.length + 1; omega))⟩
    unfold FR1 at h4 ⊢
    rw [hc.hn, hc.lv, e.2.2.1, e.2.2.2]
    exact ⟨⟨h4.1.1, by omega⟩, h4.2⟩
theorem HLD.of {s R : CS} : ∀ {c : List Nat}, HLD s c → (∀ i a : Nat, i < c.length → s.r 61 i = some a → R.r 61 i = some a ∧ (s.ot a ≠ none → R.ot a ≠ none)) → HLD R c
  | [], _, _ => True.intro
  | ph :: r, ⟨h1, h2⟩, hf => ⟨fun q => by
    obtain ⟨a, b, e1, e2⟩ := h1 q
    have e := hf r.length a (by show r.length < r.length + 1; omega) e1
    have h3 := e.2 (by rw [e2]; intro q; cases q)
    cases h : R.ot a with
    | none => exact absurd h h3
    | some b' => exact ⟨a, b', e.1, h⟩, HLD.of h2 (fun i a hi => hf i a (by show i < r.length + 1; omega))⟩
/-- only the machine's values, rows and numbers change -/
def PV (s R : CS) : Prop := (R.hs = s.hs ∧ R.L = s.L ∧ R.k = s.k ∧ R.o = s.o ∧ R.ol = s.ol ∧ R.ot = s.ot ∧ R.r = s.r ∧ R.w = s.w ∧ R.b = s.b ∧ R.l = s.l) ∧ (∀ j : Nat, j < 65 ∨ j = 67 ∨ j = 68 ∨ j = 73 ∨ j = 75 → R.i j = s.i j) ∧ (∀ k : Nat, k < 59 → R.a k = s.a k)
theorem PV.rf (s : CS) : PV s s := ⟨⟨rfl, rfl, rfl, rfl, rfl, rfl, rfl, rfl, rfl, rfl⟩, fun _ _ => rfl, fun _ _ => rfl⟩
theorem PV.tr {s R T : CS} (h : PV s R) (g : PV R T) : PV s T := by
  obtain ⟨⟨a1, a2, a3, a4, a5, a6, a7, a8, a9, a10⟩, b, c⟩ := h
  obtain ⟨⟨d1, d2, d3, d4, d5, d6, d7, d8, d9, d10⟩, e, f⟩ := g
  exact ⟨⟨d1.trans a1, d2.trans a2, d3.trans a3, d4.trans a4, d5.trans a5, d6.trans a6, d7.trans a7, d8.trans a8, d9.trans a9, d10.trans a10⟩, fun j hj => (e j hj).trans (b j hj), fun k hk => (f k hk).trans (c k hk)⟩
theorem PV.i {s R : CS} (h : PV s R) (k : Nat) (v : Int32) (hk : ¬ (k < 65 ∨ k = 67 ∨ k = 68 ∨ k = 73 ∨ k = 75)) : PV s (CS.setI R k v) := ⟨h.1, fun j hj => (if_neg (fun e => hk (by rw [← e]; exact hj))).trans (h.2.1 j hj), h.2.2⟩
theorem PV.a {s R : CS} (h : PV s R) (k : Nat) (f : Nat → Int32) (hk : 59 ≤ k) : PV s (CS.putA R k f) := ⟨h.1, h.2.1, fun j hj => (if_neg (by omega)).trans (h.2.2 j hj)⟩
theorem PV.A {s R : CS} (h : PV s R) (k j : Nat) (v : Int32) (hk : 59 ≤ k) : PV s (CS.setA R k j v) := ⟨h.1, h.2.1, fun i hi => (if_neg (by omega)).trans (h.2.2 i hi)⟩
theorem PV.ceq {s R : CS} (h : PV s R) : CEQ s R := ⟨h.2.2 15 (by omega), h.2.2 16 (by omega), h.2.2 17 (by omega), h.2.1 20 (by omega)⟩
theorem PV.ok1 {s R : CS} (h : PV s R) {x t : Nat} : oK R x t = oK s x t := by unfold oK; rw [h.1.2.1, h.1.2.2.1]
theorem PV.frm {s R : CS} (h : PV s R) {D : Nat → List Nat} {k k' : Int} (hk : k ≤ k') {c : List Nat} (hf : FRM s D k c) : FRM R D k' c := hf.of h.ceq hk (fun i a _ e => ⟨by rw [h.1.2.2.2.2.2.2.1]; exact e, fun q => by rw [h.ok1]; exact q, by rw [h.1.2.2.2.1], by rw [h.1.2.2.2.2.2.1]⟩)
theorem PV.hld {s R : CS} (h : PV s R) {c : List Nat} (hf : HLD s c) : HLD R c := hf.of (fun i a _ e => ⟨by rw [h.1.2.2.2.2.2.2.1]; exact e, fun q => by rw [h.1.2.2.2.2.2.1]; exact q⟩)
theorem PV.refs {s R : CS} (h : PV s R) (hr : REFS s) : REFS R := by
  obtain ⟨⟨a1, a2, a3, a4, a5, a6, a7, a8, a9, a10⟩, -, -⟩ := h
  unfold REFS inP oK at *
  rw [a1, a2, a3, a6, a7, a8]
  exact hr
theorem PV.room {s R : CS} (h : PV s R) {H : Nat} (hr : ROOM H s) : ROOM H R := by
  unfold ROOM at *
  rw [h.1.1, h.1.2.2.2.2.2.2.1]
  exact hr
end
section
/-! the class's machine: values, notes, the pool of exceptions -/
def PQ (s R : CS) : Prop := PV s R ∧ R.i 66 = s.i 66
theorem PQ.rf (s : CS) : PQ s s := ⟨PV.rf s, rfl⟩
theorem PQ.tr {s R T : CS} (h : PQ s R) (g : PQ R T) : PQ s T := ⟨h.1.tr g.1, g.2.trans h.2⟩
theorem q_push (N : Nat) (s : CS) (x : Int32) : ok (f_X3_push N s x) (fun R => PQ s R.2) := ok_some ⟨((PV.rf s).a 60 _ (by decide)).i 65 _ (by decide), rfl⟩
theorem q_pop (N : Nat) (s : CS) : ok (f_X3_pop N s) (fun R => PQ s R.2) := ok_some ⟨(PV.rf s).i 65 _ (by decide), rfl⟩
theorem q_note (N : Nat) (s : CS) (x y : Int32) : ok (f_X3_note N s x y) (fun R => PQ s R.2) := by
  unfold f_X3_note
  exact ok_ite (fun _ => ok_some (PQ.rf s)) (fun _ => ok_some ⟨(((PV.rf s).a 64 _ (by decide)).a 64 _ (by decide)).i 69 _ (by decide), rfl⟩)
theorem q_pp {N : Nat} {s R : CS} {x : Int32} (h : PQ s R) : ok ((f_X3_push N R x).bind fun p => some ((), p.2)) (fun R => PQ s R.2) := ok_bind (q_push N R x) (fun p hp => ok_some (h.tr hp))
theorem q_move (N : Nat) (s : CS) (x y : Int32) : ok (f_X3_move N s x y) (fun R => PQ s R.2) := by
  unfold f_X3_move
  refine ok_ite (fun _ => q_pp (PQ.rf s)) (fun _ => ok_ite (fun _ => q_pp (PQ.rf s)) (fun _ => ok_ite (fun _ => ?_) (fun _ => ok_ite (fun _ => ?_) (fun _ => ok_ite (fun _ => ?_) (fun _ => ok_ite (fun _ => ?_) (fun _ => ?_))))))
  · exact ok_bind (q_pop N s) (fun p hp => ok_some ⟨hp.1.a 59 _ (by decide), hp.2⟩)
  · exact ok_some ⟨(PV.rf s).a 59 _ (by decide), rfl⟩
  · exact ok_bind (q_pop N s) (fun p hp => q_pp hp)
  · exact ok_bind (q_pop N s) (fun p hp => q_pp hp)
  · exact ok_bind (q_pop N s) (fun p hp => ok_some hp)
theorem q_compares (N : Nat) (s : CS) (x y z : Int32) : ok (f_X3_compares N s x y z) (fun R => R.2 = s) := by
  unfold f_X3_compares
  have b : ∀ (c : Prop) [Decidable c] (u v : Int32), ok (if c then some (u, s) else some (v, s)) (fun R => R.2 = s) := fun c _ u v => ok_ite (fun _ => ok_some rfl) (fun _ => ok_some rfl)
  exact ok_ite (fun _ => b _ _ _) (fun _ => ok_ite (fun _ => b _ _ _) (fun _ => ok_ite (fun _ => b _ _ _) (fun _ => ok_ite (fun _ => b _ _ _) (fun _ => ok_ite (fun _ => b _ _ _) (fun _ => b _ _ _)))))
/-- what the machine leaves as it is: all of the reading -/
def MR (s R : CS) : Prop := (∀ j : Nat, j < 59 → R.i j = s.i j) ∧ (∀ k : Nat, k < 59 → R.a k = s.a k) ∧ R.b = s.b ∧ R.l = s.l ∧ R.r 51 = s.r 51 ∧ (∀ x : Nat, oK s x 0 → oK R x 0 ∧ R.o x = s.o x ∧ R.ol x = s.ol x)
theorem MR.rf (s : CS) : MR s s := ⟨fun _ _ => rfl, fun _ _ => rfl, rfl, rfl, rfl, fun _ h => ⟨h, rfl, rfl⟩⟩
theorem MR.tr {s R T : CS} (h : MR s R) (g : MR R T) : MR s T := ⟨fun j hj => (g.1 j hj).trans (h.1 j hj), fun k hk => (g.2.1 k hk).trans (h.2.1 k hk), g.2.2.1.trans h.2.2.1, g.2.2.2.1.trans h.2.2.2.1, g.2.2.2.2.1.trans h.2.2.2.2.1, fun x hx => ⟨(g.2.2.2.2.2 x (h.2.2.2.2.2 x hx).1).1, (g.2.2.2.2.2 x (h.2.2.2.2.2 x hx).1).2.1.trans (h.2.2.2.2.2 x hx).2.1, (g.2.2.2.2.2 x (h.2.2.2.2.2 x hx).1).2.2.trans (h.2.2.2.2.2 x hx).2.2⟩⟩
theorem PV.mr {s R : CS} (h : PV s R) : MR s R := ⟨fun j hj => h.2.1 j (by omega), h.2.2, h.1.2.2.2.2.2.2.2.2.1, h.1.2.2.2.2.2.2.2.2.2, by rw [h.1.2.2.2.2.2.2.1], fun x hx => ⟨by rw [h.ok1]; exact hx, by rw [h.1.2.2.2.1], by rw [h.1.2.2.2.2.1]⟩⟩
theorem MR.ceq {s R : CS} (h : MR s R) : CEQ s R := ⟨h.2.1 15 (by omega), h.2.1 16 (by omega), h.2.1 17 (by omega), h.1 20 (by omega)⟩
theorem pgn {α : Type} : ∀ (m n : Nat) (f g : Nat → α), (∀ i j : Nat, i < n → j < n → f i = f j → i = j) → (∀ i : Nat, i < n → ∃ j : Nat, j < m ∧ g j = f i) → n ≤ m
  | 0, n, f, g, _, h => by
    rcases Nat.eq_zero_or_pos n with e | e
    · omega
    · obtain ⟨j, hj, _⟩ := h 0 e
      omega
  | m + 1, n, f, g, hi, h => by
    by_cases c : ∃ i0 : Nat, i0 < n ∧ g m = f i0
    · obtain ⟨i0, h0, e0⟩ := c
      obtain ⟨n', rfl⟩ : ∃ n', n = n' + 1 := ⟨n - 1, by omega⟩
      have key : n' ≤ m := by
        refine pgn m n' (fun i => if i < i0 then f i else f (i + 1)) g (fun i j hi' hj' e => ?_) (fun i hi' => ?_)
        · have e : (if i < i0 then f i else f (i + 1)) = (if j < i0 then f j else f (j + 1)) := e
          by_cases c1 : i < i0
          · rw [if_pos c1] at e
            by_cases c2 : j < i0
            · rw [if_pos c2] at e; exact hi i j (by omega) (by omega) e
            · rw [if_neg c2] at e; have := hi i (j + 1) (by omega) (by omega) e; omega
          · rw [if_neg c1] at e
            by_cases c2 : j < i0
            · rw [if_pos c2] at e; have := hi (i + 1) j (by omega) (by omega) e; omega
            · rw [if_neg c2] at e; have := hi (i + 1) (j + 1) (by omega) (by omega) e; omega
        · have hx : ∃ x : Nat, x < n' + 1 ∧ x ≠ i0 ∧ (if i < i0 then f i else f (i + 1)) = f x := by
            by_cases c1 : i < i0
            · exact ⟨i, by omega, by omega, if_pos c1⟩
            · exact ⟨i + 1, by omega, by omega, if_neg c1⟩
          obtain ⟨x, x1, x2, x3⟩ := hx
          obtain ⟨j, j1, j2⟩ := h x x1
          refine ⟨j, ?_, by show g j = (if i < i0 then f i else f (i + 1)); rw [x3]; exact j2⟩
          have : j ≠ m := fun e => by
            rw [e, e0] at j2
            exact x2 (hi i0 x h0 x1 j2).symm
          omega
      omega
    · have := pgn m n f g hi (fun i hi' => by
        obtain ⟨j, j1, j2⟩ := h i hi'
        refine ⟨j, ?_, j2⟩
        have : j ≠ m := fun e => c ⟨i, hi', by rw [← e]; exact j2⟩
        omega)
      omega
/-- a frame holds it -/
def HELD (s : CS) (b : Nat) : Prop := ∃ i a : Nat, (i : Int) < dpI s ∧ i < 24 ∧ s.r 61 i = some a ∧ s.ot a = some b
theorem q_held2 {N : Nat} {s : CS} (hr : REFS s) (b : Nat) : ∀ (n : Nat) (x2 : Int32), 0 ≤ x2.toInt → x2.toInt ≤ 24 → 24 - x2.toInt < n → ok (f_X3_isHeld_2 N n s b x2) (fun R => R.2 = s ∧ (¬ R.1 = 0 → HELD s b) ∧ (R.1 = 0 → ∀ i a : Nat, x2.toInt ≤ (i : Int) → (i : Int) < dpI s → i < 24 → s.r 61 i = some a → s.ot a ≠ some b))
  | 0, x2, _, _, h => by omega
  | n + 1, x2, h0, h24, h => by
    show ok (b_X3_isHeld_2 N (f_X3_isHeld_2 N n) s b x2) _
    unfold b_X3_isHeld_2 f_X3_isHeld_46
    have e24 : (24 : Int32).toInt = 24 := by decide
    have e1 : (1 : Int32).toInt = 1 := by decide
    refine ok_ite (fun c => ok_some ⟨rfl, fun q => absurd rfl q, fun _ i a q1 q2 => ?_⟩) (fun c => ok_ite (fun c2 => ok_some ⟨rfl, fun q => absurd rfl q, fun _ i a q1 q2 q3 => ?_⟩) (fun c2 => ?_))
    · have := le_int c
      have q2 : (i : Int) < (s.i 67).toInt := q2
      omega
    · have := le_int c2
      omega
    have l1 : x2.toInt < 24 := by
      have := lt_int (Int32.not_le.mp c2)
      rw [e24] at this; exact this
    have l2 : x2.toInt < dpI s := lt_int (Int32.not_le.mp c)
    have es : (x2 + 1).toInt = x2.toInt + 1 := by rw [toInt_add] <;> rw [e1] <;> omega
    have cl : ((x2.toNatClampNeg : Nat) : Int) = x2.toInt := clampI h0
    have ih := q_held2 (N := N) hr b n (x2 + 1) (by omega) (by omega) (by omega)
    rw [es] at ih
    have go : (∀ a : Nat, s.r 61 x2.toNatClampNeg = some a → s.ot a ≠ some b) → ok (f_X3_isHeld_2 N n s b (x2 + 1)) (fun R => R.2 = s ∧ (¬ R.1 = 0 → HELD s b) ∧ (R.1 = 0 → ∀ i a : Nat, x2.toInt ≤ (i : Int) → (i : Int) < dpI s → i < 24 → s.r 61 i = some a → s.ot a ≠ some b)) := fun hx => ok_imp ih (fun R hR => ⟨hR.1, hR.2.1, fun q i a q1 q2 q3 q4 => by
      by_cases e : (i : Int) = x2.toInt
      · have e' : i = x2.toNatClampNeg := by omega
        rw [e'] at q4
        exact hx a q4
      · exact hR.2.2 q i a (by omega) q2 q3 q4⟩)
    refine ok_chk ⟨h0, l1⟩ ?_
    cases hf : s.r 61 x2.toNatClampNeg with
    | none => exact go (fun a q => by rw [hf] at q; cases q)
    | some a =>
      have ha := hr.2.2.2.1 x2.toNatClampNeg a (by omega) hf
      show ok (if oK s a 1 then _ else none) _
      refine ok_chk ha ?_
      cases ho : s.ot a with
      | none =>
        show ok (if (none : Option Nat) = (some b) then some (1, s) else f_X3_isHeld_2 N n s b (x2 + 1)) _
        rw [if_neg (by intro q; cases q)]
        exact go (fun a' q => by rw [hf] at q; cases q; rw [ho]; intro q; cases q)
      | some b' =>
        show ok (if (some b') = (some b) then some (1, s) else f_X3_isHeld_2 N n s b (x2 + 1)) _
        by_cases e : (some b') = (some b)
        · rw [if_pos e]
          exact ok_some ⟨rfl, fun _ => ⟨x2.toNatClampNeg, a, by omega, by omega, hf, ho.trans e⟩, fun q => absurd (show (1 : Int32) = 0 from q) (by decide)⟩
        · rw [if_neg e]
          exact go (fun a' q => by rw [hf] at q; cases q; rw [ho]; exact e)
theorem q_held {N : Nat} (hN : 1000 ≤ N) {s : CS} (hr : REFS s) (b : Nat) : ok (f_X3_isHeld N s b) (fun R => R.2 = s ∧ (¬ R.1 = 0 → HELD s b)) := ok_imp (q_held2 hr b N 0 (by decide) (by decide) (by rw [z_t0]; omega)) (fun R hR => ⟨hR.1, hR.2.1⟩)
/-- a new exception with its two rows -/
noncomputable def NT (s : CS) : CS := CS.setK (CS.new (CS.setK (CS.new (CS.new s 4) 3) s.hs 5) 3) s.hs 2
theorem NT.kk (s : CS) : (NT s).k = va_up (va_up (va_up (va_up (va_up s.k s.hs 4) (s.hs + 1) 3) s.hs 5) (s.hs + 1 + 1) 3) s.hs 2 := by
  unfold NT
  rw [ck_set, ck_new, ck_set, ck_new, ck_new, chs_setK, chs_new (CS.new s 4), chs_new s]
theorem NT.k {s : CS} {x : Nat} (h : x < s.hs) : (NT s).k x = s.k x := by
  rw [NT.kk]
  unfold va_up
  rw [if_neg (by omega), if_neg (by omega), if_neg (by omega), if_neg (by omega), if_neg (by omega)]
theorem NT.k0 {s : CS} : (NT s).k s.hs = 2 := by
  rw [NT.kk]
  unfold va_up
  rw [if_pos rfl]
theorem NT.k1 {s : CS} : (NT s).k (s.hs + 1) = 3 := by
  rw [NT.kk]
  unfold va_up
  rw [if_neg (by omega), if_neg (by omega), if_neg (by omega), if_pos rfl]
theorem NT.k2 {s : CS} : (NT s).k (s.hs + 2) = 3 := by
  rw [NT.kk]
  unfold va_up
  rw [if_neg (by omega), if_pos rfl]
theorem NT.L {s : CS} : (NT s).L = ((s.L ++ [s.hs]) ++ [s.hs + 1]) ++ [s.hs + 1 + 1] := by
  unfold NT
  rw [cL_setK, cL_new, cL_setK, cL_new, cL_new, chs_setK, chs_new (CS.new s 4), chs_new s]
theorem NT.hs {s : CS} : (NT s).hs = s.hs + 3 := by
  unfold NT
  rw [chs_setK, chs_new, chs_setK, chs_new, chs_new]
theorem NT.r {s : CS} : (NT s).r = s.r := by
  unfold NT
  rw [cr_setK, cr_new, cr_setK, cr_new, cr_new]
theorem NT.i {s : CS} : (NT s).i = s.i := by
  unfold NT
  rw [ci_setK, ci_new, ci_setK, ci_new, ci_new]
theorem NT.a {s : CS} : (NT s).a = s.a := by
  unfold NT
  rw [ca_setK, ca_new, ca_setK, ca_new, ca_new]
theorem NT.b {s : CS} : (NT s).b = s.b := by
  unfold NT
  rw [cb_setK, cb_new, cb_setK, cb_new, cb_new]
theorem NT.l {s : CS} : (NT s).l = s.l := by
  unfold NT
  rw [cl_setK, cl_new, cl_setK, cl_new, cl_new]
theorem NT.w {s : CS} : (NT s).w = s.w := by
  unfold NT
  rw [cw_setK, cw_new, cw_setK, cw_new, cw_new]
theorem NT.o {s : CS} {x : Nat} (h : x < s.hs) : (NT s).o x = s.o x ∧ (NT s).ol x = s.ol x ∧ (NT s).ot x = s.ot x := by
  have e1 : x ≠ s.hs := by omega
  have e2 : x ≠ (CS.new s 4).hs := by rw [chs_new]; omega
  have e3 : x ≠ (CS.setK (CS.new (CS.new s 4) 3) s.hs 5).hs := by rw [chs_setK, chs_new, chs_new]; omega
  unfold NT
  refine ⟨?_, ?_, ?_⟩
  · rw [co_setK, co_new _ _ e3, co_setK, co_new _ _ e2, co_new _ _ e1]
  · rw [col_setK, col_new _ _ e3, col_setK, col_new _ _ e2, col_new _ _ e1]
  · rw [cot_setK, cot_new _ _ e3, cot_setK, cot_new _ _ e2, cot_new _ _ e1]
theorem e_init {N : Nat} {s : CS} : f_X8_init N (CS.new s 4) s.hs = some ((), NT s) := by
  unfold f_X8_init
  have m1 : s.hs ∈ (CS.new (CS.new s 4) 3).L := by
    rw [cL_new, cL_new]
    exact List.mem_append_left _ (List.mem_append_right _ (List.mem_singleton.mpr rfl))
  have k1 : (CS.new (CS.new s 4) 3).k s.hs = 4 := by
    rw [ck_new, ck_new, chs_new]
    unfold va_up
    rw [if_neg (by omega), if_pos rfl]
  have m2 : s.hs ∈ (CS.new (CS.setK (CS.new (CS.new s 4) 3) s.hs 5) 3).L := by
    rw [cL_new, cL_setK, cL_new, cL_new]
    exact List.mem_append_left _ (List.mem_append_left _ (List.mem_append_right _ (List.mem_singleton.mpr rfl)))
  have k2 : (CS.new (CS.setK (CS.new (CS.new s 4) 3) s.hs 5) 3).k s.hs = 5 := by
    rw [ck_new, ck_set, chs_setK, chs_new, chs_new]
    unfold va_up
    rw [if_neg (by omega), if_pos rfl]
  have h1 : CS.hs (CS.new s 4) = s.hs + 1 := chs_new s 4
  have h2 : CS.hs (CS.setK (CS.new (CS.new s 4) 3) s.hs 5) = s.hs + 2 := by rw [chs_setK, chs_new, chs_new]
  rw [if_pos (show oK (CS.new (CS.new s 4) 3) s.hs 4 from ⟨m1, k1⟩), if_pos h1, if_pos (show oK (CS.new (CS.setK (CS.new (CS.new s 4) 3) s.hs 5) 3) s.hs 5 from ⟨m2, k2⟩), if_pos h2]
  rfl
end
section
/-! the class's machine: an exception, a frame -/
theorem setO_ne {s : CS} {a k x : Nat} {v : Int32} (h : x ≠ a) : (CS.setO s a k v).o x = s.o x := if_neg h
theorem setO_k {s : CS} {a k j : Nat} {v : Int32} (h : j ≠ k) : (CS.setO s a k v).o a j = s.o a j := by
  show va_up s.o a (upd (s.o a) k v) a j = _
  unfold va_up
  rw [if_pos rfl]
  exact if_neg h
theorem setO_at {s : CS} {a k : Nat} {v : Int32} : (CS.setO s a k v).o a k = v := by
  show va_up s.o a (upd (s.o a) k v) a k = _
  unfold va_up
  rw [if_pos rfl]
  exact if_pos rfl
/-- frames stay as they are -/
def FK (s R : CS) : Prop := ∀ x : Nat, oK s x 1 → oK R x 1 ∧ R.o x = s.o x ∧ R.ot x = s.ot x
theorem FK.rf (s : CS) : FK s s := fun _ h => ⟨h, rfl, rfl⟩
theorem FK.tr {s R T : CS} (h : FK s R) (g : FK R T) : FK s T := fun x hx => ⟨(g x (h x hx).1).1, (g x (h x hx).1).2.1.trans (h x hx).2.1, (g x (h x hx).1).2.2.trans (h x hx).2.2⟩
theorem PV.fk {s R : CS} (h : PV s R) : FK s R := fun x hx => ⟨by rw [h.ok1]; exact hx, by rw [h.1.2.2.2.1], by rw [h.1.2.2.2.2.2.1]⟩
theorem FK.frm {s R : CS} (h : FK s R) (hr : REFS s) (hc : CEQ s R) (e61 : R.r 61 = s.r 61) {D : Nat → List Nat} {k k' : Int} (hk : k ≤ k') {c : List Nat} (hl : c.length ≤ 24) (hf : FRM s D k c) : FRM R D k' c := hf.of hc hk (fun i a hi e => by
  have q := h a (hr.2.2.2.1 i a (by omega) e)
  exact ⟨by rw [e61]; exact e, fun _ => q.1, q.2.1, q.2.2⟩)
theorem FK.hld {s R : CS} (h : FK s R) (hr : REFS s) (e61 : R.r 61 = s.r 61) {c : List Nat} (hl : c.length ≤ 24) (hf : HLD s c) : HLD R c := hf.of (fun i a hi e => by
  have q := h a (hr.2.2.2.1 i a (by omega) e)
  exact ⟨by rw [e61]; exact e, fun z => by rw [q.2.2]; exact z⟩)
/-- one that no frame holds was found -/
def NPR (H : Nat) (s R : CS) (b : Nat) : Prop := REFS R ∧ ROOM H R ∧ inP R b ∧ (R.i = s.i ∧ R.a = s.a ∧ R.w = s.w ∧ R.r 61 = s.r 61) ∧ MR s R ∧ FK s R
theorem NT.okm {s : CS} (h : ∀ x ∈ s.L, x < s.hs) {x t : Nat} (hx : oK s x t) : oK (NT s) x t := ⟨by
  rw [NT.L]
  exact List.mem_append_left _ (List.mem_append_left _ (List.mem_append_left _ hx.1)), by rw [NT.k (h x hx.1)]; exact hx.2⟩
theorem NPR.new {H : Nat} {s : CS} (hr : REFS s) (hm : ROOM H s) {m : Nat} (h24 : m < 24) (hn : s.r 62 m = none) : NPR H s (CS.setR (NT s) 62 m (some s.hs)) s.hs := by
  obtain ⟨V, hV⟩ : ∃ V, V = CS.setR (NT s) 62 m (some s.hs) := ⟨_, rfl⟩
  have vL : V.L = ((s.L ++ [s.hs]) ++ [s.hs + 1]) ++ [s.hs + 1 + 1] := by rw [hV, cL_setR]; exact NT.L
  have vh : V.hs = s.hs + 3 := by rw [hV, chs_setR]; exact NT.hs
  have vk : V.k = (NT s).k := by rw [hV, ck_setR]
  have v51 : V.r 51 = s.r 51 := by rw [hV, cr_ne _ _ _ _ (by decide), NT.r]
  have v61 : V.r 61 = s.r 61 := by rw [hV, cr_ne _ _ _ _ (by decide), NT.r]
  have v62 : V.r 62 = va_up (s.r 62) m (some s.hs) := by rw [hV, cr_at, NT.r]
  have vi : V.i = s.i := by rw [hV, ci_setR]; exact NT.i
  have va : V.a = s.a := by rw [hV, ca_setR]; exact NT.a
  have vb : V.b = s.b := by rw [hV, cb_setR]; exact NT.b
  have vl : V.l = s.l := by rw [hV, cl_setR]; exact NT.l
  have vw : V.w = s.w := by rw [hV, cw_setR]; exact NT.w
  have vo : V.o = (NT s).o := by rw [hV, co_setR]
  have vol : V.ol = (NT s).ol := by rw [hV, col_setR]
  have vot : V.ot = (NT s).ot := by rw [hV, cot_setR]
  rw [← hV]
  clear hV
  obtain ⟨h1, h2, h3, h4, h5, h6, h7, h8, h9⟩ := hr
  have okm : ∀ {x t : Nat}, oK s x t → oK V x t := fun {x t} hx => by
    have := NT.okm h1 hx
    unfold oK at this ⊢
    rw [vL, vk, ← NT.L]; exact this
  have v62m : V.r 62 m = some s.hs := by rw [v62]; exact if_pos rfl
  have v62n : ∀ j : Nat, j ≠ m → V.r 62 j = s.r 62 j := fun j hj => by rw [v62]; exact if_neg hj
  have pm : ∀ b : Nat, inP s b → inP V b := fun b ⟨j, j1, j2⟩ => ⟨j, j1, by
    rw [v62n j (fun e => by rw [e, hn] at j2; cases j2)]; exact j2⟩
  have nb : ∀ {x t : Nat}, oK s x t → x ≠ s.hs := fun {x t} hx e => by have := h1 x hx.1; omega
  have m0 : s.hs ∈ V.L := by rw [vL]; exact List.mem_append_left _ (List.mem_append_left _ (List.mem_append_right _ (List.mem_singleton.mpr rfl)))
  have m1 : s.hs + 1 ∈ V.L := by rw [vL]; exact List.mem_append_left _ (List.mem_append_right _ (List.mem_singleton.mpr rfl))
  have m2 : s.hs + 2 ∈ V.L := by rw [vL]; exact List.mem_append_right _ (List.mem_singleton.mpr rfl)
  refine ⟨⟨fun x hx => ?_, fun i a hi e => okm (h2 i a hi (by rw [← v51]; exact e)), fun i j a hi hj e1 e2 => h3 i j a hi hj (by rw [← v51]; exact e1) (by rw [← v51]; exact e2), fun i a hi e => okm (h4 i a hi (by rw [← v61]; exact e)), fun i j a hi hj e1 e2 => h5 i j a hi hj (by rw [← v61]; exact e1) (by rw [← v61]; exact e2), fun i a hi e => ?_, fun i j a hi hj e1 e2 => ?_, fun i a b hi e1 e2 => ?_, fun b e => pm b (h9 b (by rw [← vw]; exact e))⟩, ?_, ⟨m, h24, v62m⟩, ⟨vi, va, vw, v61⟩, ⟨fun _ _ => by rw [vi], fun _ _ => by rw [va], vb, vl, v51, fun x hx => ⟨okm hx, ?_, ?_⟩⟩, fun x hx => ⟨okm hx, ?_, ?_⟩⟩
  · rw [vL] at hx
    rw [vh]
    rcases List.mem_append.mp hx with hx | hx
    · rcases List.mem_append.mp hx with hx | hx
      · rcases List.mem_append.mp hx with hx | hx
        · have := h1 x hx; omega
        · have := List.mem_singleton.mp hx; omega
      · have := List.mem_singleton.mp hx; omega
    · have := List.mem_singleton.mp hx; omega
  · by_cases c : i = m
    · rw [c, v62m] at e
      cases e
      exact ⟨⟨m0, by rw [vk]; exact NT.k0⟩, ⟨m1, by rw [vk]; exact NT.k1⟩, ⟨m2, by rw [vk]; exact NT.k2⟩⟩
    · rw [v62n i c] at e
      have := h6 i a hi e
      exact ⟨okm this.1, okm this.2.1, okm this.2.2⟩
  · by_cases c : i = m
    · by_cases c' : j = m
      · omega
      · rw [c, v62m] at e1
        rw [v62n j c'] at e2
        cases e1
        exact absurd rfl (nb (h6 j _ hj e2).1)
    · by_cases c' : j = m
      · rw [c', v62m] at e2
        rw [v62n i c] at e1
        cases e2
        exact absurd rfl (nb (h6 i _ hi e1).1)
      · rw [v62n i c] at e1
        rw [v62n j c'] at e2
        exact h7 i j a hi hj e1 e2
  · rw [v61] at e1
    have ha := h4 i a hi e1
    rw [vot, (NT.o (h1 a ha.1)).2.2] at e2
    exact pm b (h8 i a b hi e1 e2)
  · unfold ROOM at *
    rw [vh, v51, v61, v62]
    have := nn.put (a := s.hs) hn (n := 24) h24
    omega
  · rw [vo]; exact (NT.o (h1 x hx.1)).1
  · rw [vol]; exact (NT.o (h1 x hx.1)).2.1
  · rw [vo]; exact (NT.o (h1 x hx.1)).1
  · rw [vot]; exact (NT.o (h1 x hx.1)).2.2
theorem q_free2 {N : Nat} (hN : 1000 ≤ N) {H : Nat} {s : CS} (hr : REFS s) (hm : ROOM H s) (h0d : 0 ≤ dpI s) (hd : dpI s ≤ 22) : ∀ (n : Nat) (x1 : Int32), 0 ≤ x1.toInt → x1.toInt ≤ 24 → 24 - x1.toInt < n → (∀ i : Nat, (i : Int) < x1.toInt → ∃ b, s.r 62 i = some b ∧ HELD s b) → ok (f_X3_freeThrown_2 N n s x1) (fun R => ∃ b, R.1 = some b ∧ NPR H s R.2 b)
  | 0, x1, _, _, h, _ => by omega
  | n + 1, x1, h0, h24, h, hp => by
    show ok (b_X3_freeThrown_2 N (f_X3_freeThrown_2 N n) s x1) _
    unfold b_X3_freeThrown_2
    have e24 : (24 : Int32).toInt = 24 := by decide
    have e1 : (1 : Int32).toInt = 1 := by decide
    have hlt : x1.toInt < 24 := by
      by_cases q : x1.toInt < 24
      · exact q
      · exfalso
        have := pgn (dpI s).toNat 24 (fun i => s.r 62 i) (fun j => (s.r 61 j).bind s.ot) (fun i j hi hj e => by
          obtain ⟨b, q1, -⟩ := hp i (by omega)
          have e : s.r 62 i = s.r 62 j := e
          exact hr.2.2.2.2.2.2.1 i j b hi hj q1 (e.symm.trans q1)) (fun i hi => by
          obtain ⟨b, q1, j, a, q2, q3, q4, q5⟩ := hp i (by omega)
          refine ⟨j, by omega, ?_⟩
          show (s.r 61 j).bind s.ot = s.r 62 i
          rw [q4, q1]; exact q5)
        omega
    have c24 : ¬ (24 : Int32) ≤ x1 := fun q => by have := le_int q; omega
    have cl : ((x1.toNatClampNeg : Nat) : Int) = x1.toInt := clampI h0
    have es : (x1 + 1).toInt = x1.toInt + 1 := by rw [toInt_add] <;> rw [e1] <;> omega
    have hib : ib x1 24 := ⟨h0, by omega⟩
    rw [if_neg c24, if_pos hib]
    cases hf : s.r 62 x1.toNatClampNeg with
    | none =>
      show ok ((f_X8_init N (CS.new s 4) (CS.hs s)).bind _) _
      rw [e_init]
      have hnp := NPR.new hr hm (m := x1.toNatClampNeg) (by omega) hf
      obtain ⟨V, hV⟩ : ∃ V, V = CS.setR (NT s) 62 x1.toNatClampNeg (some s.hs) := ⟨_, rfl⟩
      have ok2 : oK (NT s) (CS.hs s) 2 := by
        refine ⟨?_, NT.k0⟩
        rw [NT.L]
        exact List.mem_append_left _ (List.mem_append_left _ (List.mem_append_right _ (List.mem_singleton.mpr rfl)))
      show ok (if ib x1 24 then if oK (NT s) (CS.hs s) 2 then oCase (CS.r (CS.setR (NT s) 62 x1.toNatClampNeg (some (CS.hs s))) 62 x1.toNatClampNeg) none (fun a18 => (f_X3_isHeld N (CS.setR (NT s) 62 x1.toNatClampNeg (some (CS.hs s))) a18).bind fun p19 => (if p19.1 = 0 then oCase (CS.r p19.2 62 x1.toNatClampNeg) (some (none, p19.2)) (fun a25 => some ((some a25), p19.2)) else f_X3_freeThrown_2 N n p19.2 (x1 + 1))) else none else none) _
      rw [if_pos hib, if_pos ok2]
      rw [← hV] at hnp ⊢
      have v62 : V.r 62 x1.toNatClampNeg = some s.hs := by rw [hV, cr_at]; exact if_pos rfl
      clear hV
      rw [v62]
      show ok ((f_X3_isHeld N V s.hs).bind _) _
      refine ok_bind (q_held hN hnp.1 s.hs) (fun p hpp => ?_)
      obtain ⟨p1, p2⟩ := hpp
      by_cases c : p.1 = 0
      · rw [if_pos c, p1, v62]
        exact ok_some ⟨s.hs, rfl, hnp⟩
      · exfalso
        obtain ⟨i, a, q1, q2, q3, q4⟩ := p2 c
        rw [hnp.2.2.2.1.2.2.2] at q3
        have ha := hr.2.2.2.1 i a q2 q3
        rw [(hnp.2.2.2.2.2 a ha).2.2] at q4
        obtain ⟨j, j1, j2⟩ := hr.2.2.2.2.2.2.2.1 i a s.hs q2 q3 q4
        have := hr.1 s.hs (hr.2.2.2.2.2.1 j s.hs j1 j2).1.1
        omega
    | some b =>
      show ok ((f_X3_isHeld N s b).bind _) _
      refine ok_bind (q_held hN hr b) (fun p hpp => ?_)
      obtain ⟨p1, p2⟩ := hpp
      by_cases c : p.1 = 0
      · rw [if_pos c, p1, hf]
        exact ok_some ⟨b, rfl, hr, hm, ⟨x1.toNatClampNeg, by omega, hf⟩, ⟨rfl, rfl, rfl, rfl⟩, MR.rf s, FK.rf s⟩
      · rw [if_neg c, p1]
        refine q_free2 hN hr hm h0d hd n (x1 + 1) (by omega) (by omega) (by omega) (fun i hi => ?_)
        by_cases e : (i : Int) = x1.toInt
        · have e' : i = x1.toNatClampNeg := by omega
          rw [e']
          exact ⟨b, hf, p2 c⟩
        · exact hp i (by omega)
theorem q_free {N : Nat} (hN : 1000 ≤ N) {H : Nat} {s : CS} (hr : REFS s) (hm : ROOM H s) (h0d : 0 ≤ dpI s) (hd : dpI s ≤ 22) : ok (f_X3_freeThrown N s) (fun R => ∃ b, R.1 = some b ∧ NPR H s R.2 b) := q_free2 hN hr hm h0d hd N 0 (by decide) (by decide) (by rw [z_t0]; omega) (fun i hi => by rw [z_t0] at hi; omega)
/-- something is thrown -/
def RSD (H : Nat) (s R : CS) : Prop := REFS R ∧ ROOM H R ∧ MR s R ∧ (∀ j : Nat, j ≠ 73 → j ≠ 74 → j ≠ 75 → R.i j = s.i j) ∧ R.i 73 = 4 ∧ R.i 75 = 0 ∧ R.w ≠ none ∧ R.a = s.a ∧ R.r 61 = s.r 61 ∧ FK s R
theorem q_raise {N : Nat} (hN : 1000 ≤ N) {H : Nat} {s : CS} (hr : REFS s) (hm : ROOM H s) (h0d : 0 ≤ dpI s) (hd : dpI s ≤ 22) (x1 x2 : Int32) : ok (f_X3_raise N s x1 x2) (fun R => RSD H s R.2) := by
  unfold f_X3_raise
  refine ok_bind (q_free hN hr hm h0d hd) (fun p hp => ?_)
  obtain ⟨b, e, h1, h2, h3, ⟨h4, h5, h6, h7⟩, h8, h9⟩ := hp
  rw [e]
  obtain ⟨j, j1, j2⟩ := h3
  have hb := (h1.2.2.2.2.2.1 j b j1 j2).1
  show ok (if oK p.2 b 2 then if oK p.2 b 2 then if oK p.2 b 2 then ((f_X3_go N (CS.setO (CS.setO (CS.setO (CS.setW p.2 (some b)) b 2 x1) b 3 x2) b 4 0) 4 0 0).bind fun p29 => some ((), p29.2)) else none else none else none) _
  rw [if_pos hb, if_pos hb, if_pos hb]
  refine ok_some ?_
  obtain ⟨W, hW⟩ : ∃ W, W = CS.setO (CS.setO (CS.setO (CS.setW p.2 (some b)) b 2 x1) b 3 x2) b 4 0 := ⟨_, rfl⟩
  have wi : W.i = p.2.i := by rw [hW, ci_setO, ci_setO, ci_setO, ci_setW]
  have wa : W.a = p.2.a := by rw [hW, ca_setO, ca_setO, ca_setO, ca_setW]
  have wb : W.b = p.2.b := by rw [hW, cb_setO, cb_setO, cb_setO, cb_setW]
  have wl : W.l = p.2.l := by rw [hW, cl_setO, cl_setO, cl_setO, cl_setW]
  have wr : W.r = p.2.r := by rw [hW, cr_setO, cr_setO, cr_setO, cr_setW]
  have ww : W.w = some b := by rw [hW, cw_setO, cw_setO, cw_setO, cw_at]
  have wh : W.hs = p.2.hs := by rw [hW, chs_setO, chs_setO, chs_setO, chs_setW]
  have wL : W.L = p.2.L := by rw [hW, cL_setO, cL_setO, cL_setO, cL_setW]
  have wk : W.k = p.2.k := by rw [hW, ck_setO, ck_setO, ck_setO, ck_setW]
  have wot : W.ot = p.2.ot := by rw [hW, cot_setO, cot_setO, cot_setO, cot_setW]
  have wol : W.ol = p.2.ol := by rw [hW, col_setO, col_setO, col_setO, col_setW]
  have wo : ∀ x : Nat, x ≠ b → W.o x = p.2.o x := fun x hx => by rw [hW, setO_ne hx, setO_ne hx, setO_ne hx, co_setW]
  show RSD H s (CS.setI (CS.setI (CS.setI (CS.setO (CS.setO (CS.setO (CS.setW p.2 (some b)) b 2 x1) b 3 x2) b 4 0) 73 4) 74 0) 75 0)
  rw [← hW]
  clear hW
  obtain ⟨T, hT⟩ : ∃ T, T = CS.setI (CS.setI (CS.setI W 73 4) 74 0) 75 0 := ⟨_, rfl⟩
  have ti : ∀ j : Nat, j ≠ 73 → j ≠ 74 → j ≠ 75 → T.i j = W.i j := fun j q1 q2 q3 => by rw [hT, ci_ne _ _ _ q3, ci_ne _ _ _ q2, ci_ne _ _ _ q1]
  have t73 : T.i 73 = 4 := by rw [hT, ci_ne _ _ _ (by decide), ci_ne _ _ _ (by decide), ci_at]
  have t75 : T.i 75 = 0 := by rw [hT, ci_at]
  have ta : T.a = W.a := by rw [hT, ca_setI, ca_setI, ca_setI]
  have tb : T.b = W.b := by rw [hT, cb_setI, cb_setI, cb_setI]
  have tl : T.l = W.l := by rw [hT, cl_setI, cl_setI, cl_setI]
  have tr : T.r = W.r := by rw [hT, cr_setI, cr_setI, cr_setI]
  have tw : T.w = W.w := by rw [hT, cw_setI, cw_setI, cw_setI]
  have th : T.hs = W.hs := by rw [hT, chs_setI, chs_setI, chs_setI]
  have tL : T.L = W.L := by rw [hT, cL_setI, cL_setI, cL_setI]
  have tk : T.k = W.k := by rw [hT, ck_setI, ck_setI, ck_setI]
  have tot : T.ot = W.ot := by rw [hT, cot_setI, cot_setI, cot_setI]
  have tol : T.ol = W.ol := by rw [hT, col_setI, col_setI, col_setI]
  have to' : T.o = W.o := by rw [hT, co_setI, co_setI, co_setI]
  rw [← hT]
  clear hT
  have okT : ∀ {x t : Nat}, oK p.2 x t → oK T x t := fun {x t} h => by unfold oK at *; rw [tL, tk, wL, wk]; exact h
  refine ⟨⟨?_, ?_, ?_, ?_, ?_, ?_, ?_, ?_, ?_⟩, ?_, ?_, fun j q1 q2 q3 => by rw [ti j q1 q2 q3, wi, h4], t73, t75, ?_, by rw [ta, wa, h5], by rw [tr, wr, h7], fun x hx => ?_⟩
  · rw [tL, wL, th, wh]; exact h1.1
  · intro i a hi e1; rw [tr, wr] at e1; exact okT (h1.2.1 i a hi e1)
  · rw [tr, wr]; exact h1.2.2.1
  · intro i a hi e1; rw [tr, wr] at e1; exact okT (h1.2.2.2.1 i a hi e1)
  · rw [tr, wr]; exact h1.2.2.2.2.1
  · intro i a hi e1; rw [tr, wr] at e1
    have := h1.2.2.2.2.2.1 i a hi e1
    exact ⟨okT this.1, okT this.2.1, okT this.2.2⟩
  · rw [tr, wr]; exact h1.2.2.2.2.2.2.1
  · unfold inP; rw [tr, wr, tot, wot]; exact h1.2.2.2.2.2.2.2.1
  · intro b' e1
    rw [tw, ww] at e1
    cases e1
    exact ⟨j, j1, by rw [tr, wr]; exact j2⟩
  · unfold ROOM at *; rw [th, wh, tr, wr]; exact h2
  · refine h8.tr ⟨fun j hj => by rw [ti j (by omega) (by omega) (by omega), wi], fun k _ => by rw [ta, wa], by rw [tb, wb], by rw [tl, wl], by rw [tr, wr], fun x hx => ⟨okT hx, ?_, by rw [tol, wol]⟩⟩
    rw [to']
    exact wo x (fun e => by rw [e] at hx; have := hx.2; rw [hb.2] at this; omega)
  · rw [tw, ww]; intro q; cases q
  · have q := h9 x hx
    refine ⟨okT q.1, ?_, by rw [tot, wot]; exact q.2.2⟩
    rw [to', wo x (fun e => by have := q.1.2; rw [e, hb.2] at this; omega)]
    exact q.2.1
end
section
/-! the class's machine: frames -/
noncomputable def EN (X : CS) (x1 x2 x3 : Int32) (a : Nat) : CS := CS.setI (CS.setOt (CS.setO (CS.setO (CS.setO (CS.setO X a 0 x1) a 1 x2) a 2 (X.i 65)) a 3 (X.i 68)) a none) 67 (x3 + 1)
theorem EN.ne {X : CS} {x1 x2 x3 : Int32} {a j : Nat} (h : j ≠ 67) : (EN X x1 x2 x3 a).i j = X.i j := by
  unfold EN
  rw [ci_ne _ _ _ h, ci_setOt, ci_setO, ci_setO, ci_setO, ci_setO]
theorem EN.i67 {X : CS} {x1 x2 x3 : Int32} {a : Nat} : (EN X x1 x2 x3 a).i 67 = x3 + 1 := by
  unfold EN
  rw [ci_at]
theorem EN.q {X : CS} {x1 x2 x3 : Int32} {a : Nat} : (EN X x1 x2 x3 a).a = X.a ∧ (EN X x1 x2 x3 a).b = X.b ∧ (EN X x1 x2 x3 a).l = X.l ∧ (EN X x1 x2 x3 a).r = X.r ∧ (EN X x1 x2 x3 a).w = X.w ∧ (EN X x1 x2 x3 a).hs = X.hs ∧ (EN X x1 x2 x3 a).L = X.L ∧ (EN X x1 x2 x3 a).k = X.k ∧ (EN X x1 x2 x3 a).ol = X.ol := by
  unfold EN
  rw [ca_setI, ca_setOt, ca_setO, ca_setO, ca_setO, ca_setO, cb_setI, cb_setOt, cb_setO, cb_setO, cb_setO, cb_setO, cl_setI, cl_setOt, cl_setO, cl_setO, cl_setO, cl_setO, cr_setI, cr_setOt, cr_setO, cr_setO, cr_setO, cr_setO, cw_setI, cw_setOt, cw_setO, cw_setO, cw_setO, cw_setO, chs_setI, chs_setOt, chs_setO, chs_setO, chs_setO, chs_setO, cL_setI, cL_setOt, cL_setO, cL_setO, cL_setO, cL_setO, ck_setI, ck_setOt, ck_setO, ck_setO, ck_setO, ck_setO, col_setI, col_setOt, col_setO, col_setO, col_setO, col_setO]
  exact ⟨rfl, rfl, rfl, rfl, rfl, rfl, rfl, rfl, rfl⟩
theorem EN.o {X : CS} {x1 x2 x3 : Int32} {a x : Nat} (h : x ≠ a) : (EN X x1 x2 x3 a).o x = X.o x ∧ (EN X x1 x2 x3 a).ot x = X.ot x := by
  unfold EN
  rw [co_setI, co_setOt, setO_ne h, setO_ne h, setO_ne h, setO_ne h, cot_setI, cot_ne _ _ _ h, cot_setO, cot_setO, cot_setO, cot_setO]
  exact ⟨rfl, rfl⟩
theorem EN.oa {X : CS} {x1 x2 x3 : Int32} {a : Nat} : (EN X x1 x2 x3 a).o a 0 = x1 ∧ (EN X x1 x2 x3 a).o a 1 = x2 ∧ (EN X x1 x2 x3 a).o a 3 = X.i 68 ∧ (EN X x1 x2 x3 a).ot a = none := by
  unfold EN
  rw [co_setI, co_setOt, cot_setI, cot_at]
  rw [setO_k (by decide), setO_k (by decide), setO_k (by decide), setO_at]
  rw [setO_k (by decide), setO_k (by decide), setO_at]
  rw [setO_at]
  exact ⟨rfl, rfl, rfl, rfl⟩
/-- how a frame is entered once its cell is there -/
theorem EN.in {H : Nat} {X : CS} {D : Nat → List Nat} {k : Int} {c : List Nat} {ph a : Nat} {x1 x2 x3 : Int32} (hr : REFS X) (hm : ROOM H X) (hl : c.length ≤ 21) (hf : FRM X D k c) (hh : HLD X c) (h68 : 0 ≤ (X.i 68).toInt ∧ (X.i 68).toInt ≤ k) (hx : x1.toInt = (ph : Int)) (hp : ph = 0 ∨ ph = 1 ∧ HND X D x2 c) (ha : X.r 61 c.length = some a) : REFS (EN X x1 x2 x3 a) ∧ ROOM H (EN X x1 x2 x3 a) ∧ MR X (EN X x1 x2 x3 a) ∧ FRM (EN X x1 x2 x3 a) D k (ph :: c) ∧ HLD (EN X x1 x2 x3 a) (ph :: c) := by
  obtain ⟨e1, e2, e3, e4, e5, e6, e7, e8, e9⟩ := EN.q (X := X) (x1 := x1) (x2 := x2) (x3 := x3) (a := a)
  obtain ⟨f1, f2, f3, f4⟩ := EN.oa (X := X) (x1 := x1) (x2 := x2) (x3 := x3) (a := a)
  have ei : ∀ j : Nat, j ≠ 67 → (EN X x1 x2 x3 a).i j = X.i j := fun j h => EN.ne h
  have eo : ∀ x : Nat, x ≠ a → (EN X x1 x2 x3 a).o x = X.o x ∧ (EN X x1 x2 x3 a).ot x = X.ot x := fun x h => EN.o h
  generalize EN X x1 x2 x3 a = T at *
  have okT : ∀ {x t : Nat}, oK X x t → oK T x t := fun {x t} h => by unfold oK at *; rw [e7, e8]; exact h
  have ceq : CEQ X T := ⟨by rw [e1], by rw [e1], by rw [e1], ei 20 (by decide)⟩
  have a1 := hr.2.2.2.1 c.length a (by omega) ha
  obtain ⟨h1, h2, h3, h4, h5, h6, h7, h8, h9⟩ := hr
  have nea : ∀ i a' : Nat, i < c.length → X.r 61 i = some a' → a' ≠ a := fun i a' hi e q => by
    rw [q] at e
    have := h5 i c.length a (by omega) (by omega) e ha
    omega
  refine ⟨⟨by rw [e7, e6]; exact h1, fun i x hi e => okT (h2 i x hi (by rw [← e4]; exact e)), by rw [e4]; exact h3, fun i x hi e => okT (h4 i x hi (by rw [← e4]; exact e)), by rw [e4]; exact h5, fun i x hi e => ?_, by rw [e4]; exact h7, fun i x b hi q1 q2 => ?_, fun b e => ?_⟩, ?_, ⟨fun j hj => ei j (by omega), fun _ _ => by rw [e1], e2, e3, by rw [e4], fun x hx => ⟨okT hx, (eo x (fun q => ?_)).1, by rw [e9]⟩⟩, ⟨⟨a, by rw [e4]; exact ha, okT a1, by rw [f1]; exact hx, ?_⟩, ?_⟩, ⟨fun q => ?_, ?_⟩⟩
  · have := h6 i x hi (by rw [← e4]; exact e)
    exact ⟨okT this.1, okT this.2.1, okT this.2.2⟩
  · rw [e4] at q1
    by_cases q : x = a
    · rw [q, f4] at q2; cases q2
    · rw [(eo x q).2] at q2
      unfold inP; rw [e4]; exact h8 i x b hi q1 q2
  · rw [e5] at e
    unfold inP; rw [e4]; exact h9 b e
  · unfold ROOM at *; rw [e6, e4]; exact hm
  · rw [q] at hx; have := hx.2; rw [a1.2] at this; omega
  · refine ⟨by rw [f3]; exact h68, fun q => ?_, fun q => ?_⟩
    · rcases hp with hp | ⟨hp, hq⟩
      · omega
      · rw [f2, ceq.hn]; exact hq
    · rcases hp with hp | ⟨hp, hq⟩ <;> omega
  · exact hf.of ceq (Int.le_refl _) (fun i a' hi e => ⟨by rw [e4]; exact e, fun q => okT q, (eo a' (nea i a' hi e)).1, (eo a' (nea i a' hi e)).2⟩)
  · rcases hp with hp | ⟨hp, hq⟩ <;> omega
  · exact hh.of (fun i a' hi e => ⟨by rw [e4]; exact e, fun q => by rw [(eo a' (nea i a' hi e)).2]; exact q⟩)
/-- a new cell for a frame -/
noncomputable def FNW (s : CS) (m : Nat) : CS := CS.setR (CS.new s 1) 61 m (some s.hs)
theorem FNW.in {H : Nat} {s : CS} (hr : REFS s) (hm : ROOM H s) {m : Nat} (h24 : m < 24) (hn : s.r 61 m = none) : REFS (FNW s m) ∧ ROOM H (FNW s m) ∧ MR s (FNW s m) ∧ FK s (FNW s m) ∧ ((FNW s m).i = s.i ∧ (FNW s m).a = s.a ∧ (FNW s m).w = s.w) ∧ (FNW s m).r 61 m = some s.hs ∧ (∀ j : Nat, j ≠ m → (FNW s m).r 61 j = s.r 61 j) := by
  have vL : (FNW s m).L = s.L ++ [s.hs] := by unfold FNW; rw [cL_setR, cL_new]
  have vh : (FNW s m).hs = s.hs + 1 := by unfold FNW; rw [chs_setR, chs_new]
  have vk : (FNW s m).k = va_up s.k s.hs 1 := by unfold FNW; rw [ck_setR, ck_new]
  have v51 : (FNW s m).r 51 = s.r 51 := by unfold FNW; rw [cr_ne _ _ _ _ (by decide), cr_new]
  have v62 : (FNW s m).r 62 = s.r 62 := by unfold FNW; rw [cr_ne _ _ _ _ (by decide), cr_new]
  have v61 : (FNW s m).r 61 = va_up (s.r 61) m (some s.hs) := by unfold FNW; rw [cr_at, cr_new]
  have vi : (FNW s m).i = s.i := by unfold FNW; rw [ci_setR, ci_new]
  have va : (FNW s m).a = s.a := by unfold FNW; rw [ca_setR, ca_new]
  have vb : (FNW s m).b = s.b := by unfold FNW; rw [cb_setR, cb_new]
  have vl : (FNW s m).l = s.l := by unfold FNW; rw [cl_setR, cl_new]
  have vw : (FNW s m).w = s.w := by unfold FNW; rw [cw_setR, cw_new]
  have vo : ∀ x : Nat, x ≠ s.hs → (FNW s m).o x = s.o x ∧ (FNW s m).ol x = s.ol x ∧ (FNW s m).ot x = s.ot x := fun x hx => by
    unfold FNW; rw [co_setR, co_new _ _ hx, col_setR, col_new _ _ hx, cot_setR, cot_new _ _ hx]; exact ⟨rfl, rfl, rfl⟩
  have voh : (FNW s m).ot s.hs = none := by unfold FNW; rw [cot_setR]; exact if_pos rfl
  generalize FNW s m = V at *
  obtain ⟨h1, h2, h3, h4, h5, h6, h7, h8, h9⟩ := hr
  have lt : ∀ {x t : Nat}, oK s x t → x < s.hs := fun {x t} hx => h1 x hx.1
  have okm : ∀ {x t : Nat}, oK s x t → oK V x t := fun {x t} hx => by
    refine ⟨by rw [vL]; exact List.mem_append_left _ hx.1, ?_⟩
    rw [vk]
    have := lt hx
    exact (if_neg (by omega)).trans hx.2
  have okn : oK V s.hs 1 := ⟨by rw [vL]; exact List.mem_append_right _ (List.mem_singleton.mpr rfl), by rw [vk]; exact if_pos rfl⟩
  have v61m : V.r 61 m = some s.hs := by rw [v61]; exact if_pos rfl
  have v61n : ∀ j : Nat, j ≠ m → V.r 61 j = s.r 61 j := fun j hj => by rw [v61]; exact if_neg hj
  refine ⟨⟨fun x hx => ?_, fun i a hi e => okm (h2 i a hi (by rw [← v51]; exact e)), by rw [v51]; exact h3, fun i a hi e => ?_, fun i j a hi hj e1 e2 => ?_, fun i a hi e => ?_, by rw [v62]; exact h7, fun i a b hi e1 e2 => ?_, fun b e => ?_⟩, ?_, ⟨fun _ _ => by rw [vi], fun _ _ => by rw [va], vb, vl, v51, fun x hx => ?_⟩, fun x hx => ?_, ⟨vi, va, vw⟩, v61m, v61n⟩
  · rw [vL] at hx
    rw [vh]
    rcases List.mem_append.mp hx with hx | hx
    · have := h1 x hx; omega
    · have := List.mem_singleton.mp hx; omega
  · by_cases c : i = m
    · rw [c, v61m] at e; cases e; exact okn
    · rw [v61n i c] at e; exact okm (h4 i a hi e)
  · by_cases c : i = m
    · by_cases c' : j = m
      · omega
      · rw [c, v61m] at e1
        rw [v61n j c'] at e2
        cases e1
        have := lt (h4 j _ hj e2); omega
    · by_cases c' : j = m
      · rw [c', v61m] at e2
        rw [v61n i c] at e1
        cases e2
        have := lt (h4 i _ hi e1); omega
      · rw [v61n i c] at e1
        rw [v61n j c'] at e2
        exact h5 i j a hi hj e1 e2
  · have := h6 i a hi (by rw [← v62]; exact e)
    exact ⟨okm this.1, okm this.2.1, okm this.2.2⟩
  · by_cases c : i = m
    · rw [c, v61m] at e1; cases e1; rw [voh] at e2; cases e2
    · rw [v61n i c] at e1
      have ha := lt (h4 i a hi e1)
      rw [(vo a (by omega)).2.2] at e2
      unfold inP; rw [v62]; exact h8 i a b hi e1 e2
  · rw [vw] at e
    unfold inP; rw [v62]; exact h9 b e
  · unfold ROOM at *
    rw [vh, v51, v61, v62]
    have := nn.put (a := s.hs) hn (n := 24) h24
    omega
  · have := lt hx
    have q := vo x (by omega)
    exact ⟨okm hx, q.1, q.2.1⟩
  · have := lt hx
    have q := vo x (by omega)
    exact ⟨okm hx, q.1, q.2.2⟩
theorem q_enter {N H : Nat} {s : CS} {D : Nat → List Nat} {k : Int} {c : List Nat} {ph : Nat} {x1 x2 : Int32} (hr : REFS s) (hm : ROOM H s) (hl : (c.length : Int) = dpI s) (h21 : c.length ≤ 21) (hf : FRM s D k c) (hh : HLD s c) (h68 : 0 ≤ (s.i 68).toInt ∧ (s.i 68).toInt ≤ k) (hx : x1.toInt = (ph : Int)) (hp : ph = 0 ∨ ph = 1 ∧ HND s D x2 c) : ok (f_X3_enter N s x1 x2) (fun R => REFS R.2 ∧ ROOM H R.2 ∧ MR s R.2 ∧ (∀ j : Nat, j ≠ 67 → R.2.i j = s.i j) ∧ R.2.w = s.w ∧ dpI R.2 = dpI s + 1 ∧ FRM R.2 D k (ph :: c) ∧ HLD R.2 (ph :: c)) := by
  unfold f_X3_enter
  have e23 : (23 : Int32).toInt = 23 := by decide
  have e1 : (1 : Int32).toInt = 1 := by decide
  have hl' : (s.i 67).toInt = (c.length : Int) := hl.symm
  have c23 : ¬ (23 : Int32) < s.i 67 := fun q => by have := lt_int q; omega
  have hib : ib (s.i 67) 24 := ⟨by omega, by omega⟩
  have cn : (s.i 67).toNatClampNeg = c.length := by
    have := clampI (k := s.i 67) (by omega)
    omega
  rw [if_neg c23, if_pos hib, cn]
  have es : (s.i 67 + 1).toInt = (s.i 67).toInt + 1 := by rw [toInt_add] <;> rw [e1] <;> omega
  have fin : ∀ (X : CS) (a : Nat), REFS X → ROOM H X → MR s X → X.i = s.i → X.w = s.w → FRM X D k c → HLD X c → X.r 61 c.length = some a → CEQ s X → ok (f_X3_enter_45 N X x1 x2 (s.i 67) a) (fun R => REFS R.2 ∧ ROOM H R.2 ∧ MR s R.2 ∧ (∀ j : Nat, j ≠ 67 → R.2.i j = s.i j) ∧ R.2.w = s.w ∧ dpI R.2 = dpI s + 1 ∧ FRM R.2 D k (ph :: c) ∧ HLD R.2 (ph :: c)) := fun X a q1 q2 q3 q4 q5 q6 q7 q8 q9 => by
    unfold f_X3_enter_45
    rw [if_pos (q1.2.2.2.1 c.length a (by omega) q8)]
    have hp' : ph = 0 ∨ ph = 1 ∧ HND X D x2 c := by rw [q9.hn]; exact hp
    have r := EN.in (x3 := s.i 67) q1 q2 h21 q6 q7 (by rw [q4]; exact h68) hx hp' q8
    refine ok_some ⟨r.1, r.2.1, q3.tr r.2.2.1, fun j hj => ?_, ?_, ?_, r.2.2.2.1, r.2.2.2.2⟩
    · show (EN X x1 x2 (s.i 67) a).i j = s.i j
      rw [EN.ne hj, q4]
    · show (EN X x1 x2 (s.i 67) a).w = s.w
      rw [EN.q.2.2.2.2.1, q5]
    · show ((EN X x1 x2 (s.i 67) a).i 67).toInt = (s.i 67).toInt + 1
      rw [EN.i67, es]
  cases hc : s.r 61 c.length with
  | none =>
    show ok ((f_X2_init N (CS.new s 1) (CS.hs s)).bind fun p5 => if ib (s.i 67) 24 then if oK p5.2 (CS.hs s) 1 then f_X3_enter_45 N (CS.setR p5.2 61 c.length (some (CS.hs s))) x1 x2 (s.i 67) (CS.hs s) else none else none) _
    unfold f_X2_init
    show ok (if ib (s.i 67) 24 then if oK (CS.new s 1) (CS.hs s) 1 then f_X3_enter_45 N (FNW s c.length) x1 x2 (s.i 67) (CS.hs s) else none else none) _
    have okn : oK (CS.new s 1) (CS.hs s) 1 := ⟨by rw [cL_new]; exact List.mem_append_right _ (List.mem_singleton.mpr rfl), by rw [ck_new]; exact if_pos rfl⟩
    rw [if_pos hib, if_pos okn]
    obtain ⟨a1, a2, a3, a4, ⟨a5, a6, a7⟩, a8, a9⟩ := FNW.in hr hm (m := c.length) (by omega) hc
    have fk : ∀ i a : Nat, i < c.length → s.r 61 i = some a → (FNW s c.length).r 61 i = some a ∧ (oK s a 1 → oK (FNW s c.length) a 1) ∧ (FNW s c.length).o a = s.o a ∧ (FNW s c.length).ot a = s.ot a := fun i a hi e => by
      have q := a4 a (hr.2.2.2.1 i a (by omega) e)
      exact ⟨by rw [a9 i (by omega)]; exact e, fun _ => q.1, q.2.1, q.2.2⟩
    exact fin _ _ a1 a2 a3 a5 a7 (hf.of a3.ceq (Int.le_refl _) fk) (hh.of (fun i a hi e => ⟨(fk i a hi e).1, fun q => by rw [(fk i a hi e).2.2.2]; exact q⟩)) a8 a3.ceq
  | some a =>
    exact fin s a hr hm (MR.rf s) rfl rfl hf hh hc ⟨rfl, rfl, rfl, rfl⟩
end
section
/-! the class's machine: resources are closed, frames are left -/
/-- between two closings -/
def LBR (H : Nat) (s R : CS) : Prop := REFS R ∧ ROOM H R ∧ MR s R ∧ FK s R ∧ R.r 61 = s.r 61 ∧ (∀ j : Nat, j = 66 ∨ j = 67 ∨ j = 68 → R.i j = s.i j) ∧ ((R.i 73 = s.i 73 ∧ R.i 75 = s.i 75 ∧ R.w = s.w) ∨ (R.i 73 = 4 ∧ R.i 75 = 0 ∧ R.w ≠ none))
theorem LBR.rf {H : Nat} {s : CS} (hr : REFS s) (hm : ROOM H s) : LBR H s s := ⟨hr, hm, MR.rf s, FK.rf s, rfl, fun _ _ => rfl, Or.inl ⟨rfl, rfl, rfl⟩⟩
theorem LBR.tr {H : Nat} {s R T : CS} (h : LBR H s R) (g : LBR H R T) : LBR H s T := by
  obtain ⟨a1, a2, a3, a4, a5, a6, a7⟩ := h
  obtain ⟨b1, b2, b3, b4, b5, b6, b7⟩ := g
  refine ⟨b1, b2, a3.tr b3, a4.tr b4, b5.trans a5, fun j hj => (b6 j hj).trans (a6 j hj), ?_⟩
  rcases b7 with ⟨q1, q2, q3⟩ | b7
  · rcases a7 with ⟨p1, p2, p3⟩ | ⟨p1, p2, p3⟩
    · exact Or.inl ⟨q1.trans p1, q2.trans p2, q3.trans p3⟩
    · exact Or.inr ⟨q1.trans p1, q2.trans p2, by rw [q3]; exact p3⟩
  · exact Or.inr b7
theorem PQ.lbr {H : Nat} {s R : CS} (h : PQ s R) (hr : REFS s) (hm : ROOM H s) : LBR H s R := ⟨h.1.refs hr, h.1.room hm, h.1.mr, h.1.fk, by rw [h.1.1.2.2.2.2.2.2.1], fun j hj => by
  rcases hj with q | q | q
  · rw [q]; exact h.2
  · rw [q]; exact h.1.2.1 67 (by omega)
  · rw [q]; exact h.1.2.1 68 (by omega), Or.inl ⟨h.1.2.1 73 (by omega), h.1.2.1 75 (by omega), h.1.1.2.2.2.2.2.2.2.1⟩⟩
theorem RSD.lbr {H : Nat} {s R : CS} (h : RSD H s R) : LBR H s R := ⟨h.1, h.2.1, h.2.2.1, h.2.2.2.2.2.2.2.2.2, h.2.2.2.2.2.2.2.2.1, fun j hj => h.2.2.2.1 j (by omega) (by omega) (by omega), Or.inr ⟨h.2.2.2.2.1, h.2.2.2.2.2.1, h.2.2.2.2.2.2.1⟩⟩
/-- only what lies in an exception changes -/
theorem q_supp {N H : Nat} {s : CS} (hr : REFS s) (hm : ROOM H s) {b : Nat} (hb : inP s b) (x1 x2 : Int32) : ok (f_X8_suppress N s b x1 x2) (fun R => LBR H s R.2) := by
  obtain ⟨j, j1, j2⟩ := hb
  obtain ⟨o1, o2, o3⟩ := hr.2.2.2.2.2.1 j b j1 j2
  unfold f_X8_suppress
  refine ok_chk o1 (ok_ite (fun _ => ok_some (LBR.rf hr hm)) (fun _ => ok_chk o2 (ok_chk o3 (ok_some ?_))))
  have key : ∀ (f g : Nat → Int32) (v : Int32), LBR H s (CS.setO (CS.putOA (CS.putOA s (b + 1) f) (b + 2) g) b 4 v) := fun f g v => by
    obtain ⟨T, hT⟩ : ∃ T, T = CS.setO (CS.putOA (CS.putOA s (b + 1) f) (b + 2) g) b 4 v := ⟨_, rfl⟩
    have ti : T.i = s.i := by rw [hT, ci_setO, ci_putOA, ci_putOA]
    have ta : T.a = s.a := by rw [hT, ca_setO, ca_putOA, ca_putOA]
    have tb : T.b = s.b := by rw [hT, cb_setO, cb_putOA, cb_putOA]
    have tl : T.l = s.l := by rw [hT, cl_setO, cl_putOA, cl_putOA]
    have tr : T.r = s.r := by rw [hT, cr_setO, cr_putOA, cr_putOA]
    have tw : T.w = s.w := by rw [hT, cw_setO, cw_putOA, cw_putOA]
    have th : T.hs = s.hs := by rw [hT, chs_setO, chs_putOA, chs_putOA]
    have tL : T.L = s.L := by rw [hT, cL_setO, cL_putOA, cL_putOA]
    have tk : T.k = s.k := by rw [hT, ck_setO, ck_putOA, ck_putOA]
    have tot : T.ot = s.ot := by rw [hT, cot_setO, cot_putOA, cot_putOA]
    have tol : T.ol = s.ol := by rw [hT, col_setO, col_putOA, col_putOA]
    have to' : ∀ x : Nat, x ≠ b → T.o x = s.o x := fun x hx => by rw [hT, setO_ne hx, co_putOA, co_putOA]
    rw [← hT]
    clear hT
    have okT : ∀ {x t : Nat}, oK T x t = oK s x t := fun {x t} => by unfold oK; rw [tL, tk]
    refine ⟨?_, ?_, ⟨fun _ _ => by rw [ti], fun _ _ => by rw [ta], tb, tl, by rw [tr], fun x hx => ⟨by rw [okT]; exact hx, to' x (fun e => ?_), by rw [tol]⟩⟩, fun x hx => ⟨by rw [okT]; exact hx, to' x (fun e => ?_), by rw [tot]⟩, by rw [tr], fun _ _ => by rw [ti], Or.inl ⟨by rw [ti], by rw [ti], tw⟩⟩
    · unfold REFS inP oK at *
      rw [th, tL, tk, tot, tr, tw]
      exact hr
    · unfold ROOM at *; rw [th, tr]; exact hm
    · rw [e] at hx; have := hx.2; rw [o1.2] at this; omega
    · rw [e] at hx; have := hx.2; rw [o1.2] at this; omega
  exact key _ _ _
theorem q_close {N : Nat} (hN : 1000 ≤ N) {H : Nat} {s : CS} (hr : REFS s) (hm : ROOM H s) (h0d : 0 ≤ dpI s) (hd : dpI s ≤ 22) (x : Int32) : ok (f_X3_closeOne N s x) (fun R => LBR H s R.2) := by
  unfold f_X3_closeOne
  refine ok_bind (q_note N s 2 x) (fun p hp => ?_)
  have hp1 : LBR H s p.2 := hp.lbr hr hm
  have rs : ∀ y : Int32, ok (f_X3_closeOne_50 N p.2 x y) (fun R => LBR H s R.2) := fun y => by
    unfold f_X3_closeOne_50
    have ed : dpI p.2 = dpI s := by unfold dpI; rw [hp1.2.2.2.2.2.1 67 (by omega)]
    exact ok_bind (q_raise hN hp1.1 hp1.2.1 (by rw [ed]; exact h0d) (by rw [ed]; exact hd) y x) (fun q hq => ok_some (hp1.tr hq.lbr))
  refine ok_ite (fun _ => ok_ite (fun _ => ?_) (fun _ => rs _)) (fun _ => ok_some hp1)
  cases hw : p.2.w with
  | none => exact rs _
  | some b =>
    have hb := hp1.1.2.2.2.2.2.2.2.2 b hw
    obtain ⟨j, j1, j2⟩ := hb
    show ok (if oK p.2 b 2 then (f_X8_suppress N p.2 b _ x).bind _ else none) _
    rw [if_pos (hp1.1.2.2.2.2.2.1 j b j1 j2).1]
    exact ok_bind (q_supp hp1.1 hp1.2.1 ⟨j, j1, j2⟩ _ _) (fun q hq => ok_some (hp1.tr hq))
/-- where the machine stands while it goes on -/
def ONP (s : CS) (D : Nat → List Nat) (k : Int) (c : List Nat) : Prop := 0 ≤ (s.i 66).toInt ∧ (s.i 66).toInt ≤ 2000000 + k ∧ (1200 ≤ (s.i 66).toInt ∨ (s.i 66).toInt < szI s ∧ D (s.i 66).toInt.toNat = c)
def GOL (s : CS) : Int := (s.i 75 - s.i 75 / 32 * 32).toInt
def MW (s : CS) (D : Nat → List Nat) (k : Int) (c : List Nat) : Prop := (s.i 73 = 0 ∧ HLD s c ∧ ONP s D k c) ∨ ((s.i 73 = 1 ∨ s.i 73 = 2) ∧ LVT s D (s.i 75) c ∧ HLD s c.tail ∧ (HLD s c ∨ GOL s < c.length)) ∨ ((s.i 73 = 3 ∨ s.i 73 = 4) ∧ s.i 75 = 0 ∧ HLD s c.tail ∧ (s.i 73 = 4 → s.w ≠ none))
/-- the machine's state at a tick -/
def MI (H : Nat) (s : CS) (D : Nat → List Nat) (k : Int) : Prop := REFS s ∧ ROOM H s ∧ WTC s D ∧ (0 ≤ (s.i 68).toInt ∧ (s.i 68).toInt ≤ k) ∧ ∃ c : List Nat, (c.length : Int) = dpI s ∧ c.length ≤ 22 ∧ FRM s D k c ∧ MW s D k c
theorem VN.on {s : CS} {D : Nat → List Nat} {n k : Int} {c : List Nat} (h : VN s D n c) (hk : 0 ≤ k) (e : (s.i 66).toInt = n) : ONP s D k c := by
  obtain ⟨h1, h2, h3⟩ := h
  unfold ONP
  rw [e]
  exact ⟨h1, by omega, h3⟩
theorem LVT.g {s : CS} {D : Nat → List Nat} {x : Int32} {ph ph' : Nat} {r : List Nat} (h : LVT s D x (ph :: r)) (hg : (x - x / 32 * 32).toInt < ((r.length : Int) + 1)) : LVT s D x (ph' :: r) ∧ LVT s D x r := by
  obtain ⟨g, g1, g2, g3⟩ := h
  have g4 : g ≤ r.length := by omega
  have e0 : ∀ p : Nat, (p :: r).length - g = (r.length - g) + 1 := fun p => by show r.length + 1 - g = _; omega
  have e1 : ∀ p : Nat, (p :: r).drop ((p :: r).length - g) = r.drop (r.length - g) := fun p => by rw [e0 p]; rfl
  rw [e1] at g3
  exact ⟨⟨g, g1, by show g ≤ r.length + 1; omega, by rw [e1]; exact g3⟩, g, g1, g4, g3⟩
/-- a part of the top frame changes -/
theorem FRM.tl {s R : CS} {D : Nat → List Nat} {k k' : Int} {r : List Nat} {a : Nat} (hr : REFS s) (hl : r.length < 24) (ha : s.r 61 r.length = some a) (hc : CEQ s R) (e61 : R.r 61 = s.r 61) (hk : k ≤ k') (ho : ∀ x : Nat, x ≠ a → (oK s x 1 → oK R x 1) ∧ R.o x = s.o x ∧ R.ot x = s.ot x) (hf : FRM s D k r) : FRM R D k' r := hf.of hc hk (fun i a' hi e => by
  have ne : a' ≠ a := fun q => by
    rw [q] at e
    have := hr.2.2.2.2.1 i r.length a (by omega) hl e ha
    omega
  have q := ho a' ne
  exact ⟨by rw [e61]; exact e, q.1, q.2.1, q.2.2⟩)
theorem HLD.tl {s R : CS} {r : List Nat} {a : Nat} (hr : REFS s) (hl : r.length < 24) (ha : s.r 61 r.length = some a) (e61 : R.r 61 = s.r 61) (ho : ∀ x : Nat, x ≠ a → R.ot x = s.ot x) (hf : HLD s r) : HLD R r := hf.of (fun i a' hi e => by
  have ne : a' ≠ a := fun q => by
    rw [q] at e
    have := hr.2.2.2.2.1 i r.length a (by omega) hl e ha
    omega
  exact ⟨by rw [e61]; exact e, fun z => by rw [ho a' ne]; exact z⟩)
/-- an exception or nothing is put into a frame, and its numbers change -/
theorem REFS.fr {s R : CS} {a : Nat} (hr : REFS s) (e1 : R.hs = s.hs) (e2 : R.L = s.L) (e3 : R.k = s.k) (e4 : R.r = s.r) (hw : ∀ b : Nat, R.w = some b → inP s b) (ho : ∀ x : Nat, x ≠ a → R.ot x = s.ot x) (ha : ∀ b : Nat, R.ot a = some b → inP s b) : REFS R := by
  obtain ⟨h1, h2, h3, h4, h5, h6, h7, h8, h9⟩ := hr
  have ok' : ∀ {x t : Nat}, oK R x t = oK s x t := fun {x t} => by unfold oK; rw [e2, e3]
  have ip : ∀ b : Nat, inP R b = inP s b := fun b => by unfold inP; rw [e4]
  refine ⟨by rw [e1, e2]; exact h1, fun i x hi e => by rw [ok']; exact h2 i x hi (by rw [← e4]; exact e), by rw [e4]; exact h3, fun i x hi e => by rw [ok']; exact h4 i x hi (by rw [← e4]; exact e), by rw [e4]; exact h5, fun i x hi e => by rw [ok', ok', ok']; exact h6 i x hi (by rw [← e4]; exact e), by rw [e4]; exact h7, fun i x b hi q1 q2 => ?_, fun b q => by rw [ip]; exact hw b q⟩
  rw [ip]
  rw [e4] at q1
  by_cases q : x = a
  · rw [q] at q2; exact ha b q2
  · rw [ho x q] at q2; exact h8 i x b hi q1 q2
end
section
/-! the class's machine: out of a body, into a finally, out of a frame -/
/-- a frame's body is left -/
def FINB (s R : CS) (a : Nat) : Prop := ((R.a = s.a ∧ R.b = s.b ∧ R.l = s.l ∧ R.r = s.r) ∧ (R.w = s.w ∧ R.hs = s.hs ∧ R.L = s.L ∧ R.k = s.k ∧ R.ol = s.ol)) ∧ (∀ j : Nat, j ≠ 65 → j ≠ 66 → j ≠ 68 → j ≠ 73 → R.i j = s.i j) ∧ R.i 68 = s.o a 3 ∧ (∀ x : Nat, x ≠ a → R.o x = s.o x ∧ R.ot x = s.ot x) ∧ (R.o a 0 = 2 ∧ ∀ j : Nat, j ≠ 0 → R.o a j = s.o a j) ∧ ((s.i 73 = 4 ∧ R.i 73 = 0 ∧ R.i 66 = tg s (s.o a 1) ∧ R.ot a = s.w) ∨ (¬ s.i 73 = 4 ∧ R.i 73 = s.i 73 ∧ R.i 66 = s.i 66 ∧ R.ot a = s.ot a))
theorem q_fin {N : Nat} {s : CS} {a : Nat} (ha : oK s a 1) : ok (if (s.i 73) = 4 then oCase (CS.w (CS.setO (CS.setI s 68 (CS.o s a 3)) a 0 2)) ((f_X3_begin N (CS.setOt (CS.setO (CS.setI s 68 (CS.o s a 3)) a 0 2) a none) a (CS.o (CS.setOt (CS.setO (CS.setI s 68 (CS.o s a 3)) a 0 2) a none) a 1)).bind fun p6 => some ((), p6.2)) (fun a5 => (f_X3_begin N (CS.setOt (CS.setO (CS.setI s 68 (CS.o s a 3)) a 0 2) a (some a5)) a (CS.o (CS.setOt (CS.setO (CS.setI s 68 (CS.o s a 3)) a 0 2) a (some a5)) a 1)).bind fun p10 => some ((), p10.2)) else some ((), CS.setO (CS.setI s 68 (CS.o s a 3)) a 0 2) : Option (Unit × CS)) (fun R => FINB s R.2 a) := by
  obtain ⟨X, hX⟩ : ∃ X, X = CS.setO (CS.setI s 68 (CS.o s a 3)) a 0 2 := ⟨_, rfl⟩
  have xi : ∀ j : Nat, j ≠ 68 → X.i j = s.i j := fun j hj => by rw [hX, ci_setO, ci_ne _ _ _ hj]
  have x68 : X.i 68 = s.o a 3 := by rw [hX, ci_setO, ci_at]
  have xa : X.a = s.a := by rw [hX, ca_setO, ca_setI]
  have xb : X.b = s.b := by rw [hX, cb_setO, cb_setI]
  have xl : X.l = s.l := by rw [hX, cl_setO, cl_setI]
  have xr : X.r = s.r := by rw [hX, cr_setO, cr_setI]
  have xw : X.w = s.w := by rw [hX, cw_setO, cw_setI]
  have xh : X.hs = s.hs := by rw [hX, chs_setO, chs_setI]
  have xL : X.L = s.L := by rw [hX, cL_setO, cL_setI]
  have xk : X.k = s.k := by rw [hX, ck_setO, ck_setI]
  have xol : X.ol = s.ol := by rw [hX, col_setO, col_setI]
  have xot : X.ot = s.ot := by rw [hX, cot_setO, cot_setI]
  have xo : ∀ x : Nat, x ≠ a → X.o x = s.o x := fun x hx => by rw [hX, setO_ne hx, co_setI]
  have xo0 : X.o a 0 = 2 := by rw [hX, setO_at]
  have xoj : ∀ j : Nat, j ≠ 0 → X.o a j = s.o a j := fun j hj => by rw [hX, setO_k hj, co_setI]
  rw [← hX]
  clear hX
  refine ok_ite (fun c => ?_) (fun c => ?_)
  · have go : ∀ v : Option Nat, v = s.w → ok ((f_X3_begin N (CS.setOt X a v) a (CS.o (CS.setOt X a v) a 1)).bind fun p6 => some ((), p6.2)) (fun R => FINB s R.2 a) := fun v hv => by
      unfold f_X3_begin
      have okT : oK (CS.setOt X a v) a 1 := by unfold oK; rw [cL_setOt, ck_setOt, xL, xk]; exact ha
      rw [if_pos okT]
      refine ok_some ?_
      show FINB s (CS.setI (CS.setI (CS.setI (CS.setOt X a v) 65 ((CS.setOt X a v).o a 2)) 66 (gAt (CS.a (CS.setI (CS.setOt X a v) 65 ((CS.setOt X a v).o a 2)) 17) 1024 ((CS.setOt X a v).o a 1))) 73 0) a
      refine ⟨⟨⟨?_, ?_, ?_, ?_⟩, ?_, ?_, ?_, ?_, ?_⟩, fun j q1 q2 q3 q4 => ?_, ?_, fun x hx => ⟨?_, ?_⟩, ⟨?_, fun j hj => ?_⟩, Or.inl ⟨c, ?_, ?_, ?_⟩⟩
      · rw [ca_setI, ca_setI, ca_setI, ca_setOt, xa]
      · rw [cb_setI, cb_setI, cb_setI, cb_setOt, xb]
      · rw [cl_setI, cl_setI, cl_setI, cl_setOt, xl]
      · rw [cr_setI, cr_setI, cr_setI, cr_setOt, xr]
      · rw [cw_setI, cw_setI, cw_setI, cw_setOt, xw]
      · rw [chs_setI, chs_setI, chs_setI, chs_setOt, xh]
      · rw [cL_setI, cL_setI, cL_setI, cL_setOt, xL]
      · rw [ck_setI, ck_setI, ck_setI, ck_setOt, xk]
      · rw [col_setI, col_setI, col_setI, col_setOt, xol]
      · rw [ci_ne _ _ _ q4, ci_ne _ _ _ q2, ci_ne _ _ _ q1, ci_setOt, xi j q3]
      · rw [ci_ne _ _ _ (by decide), ci_ne _ _ _ (by decide), ci_ne _ _ _ (by decide), ci_setOt, x68]
      · rw [co_setI, co_setI, co_setI, co_setOt, xo x hx]
      · rw [cot_setI, cot_setI, cot_setI, cot_ne _ _ _ hx, xot]
      · rw [co_setI, co_setI, co_setI, co_setOt, xo0]
      · rw [co_setI, co_setI, co_setI, co_setOt, xoj j hj]
      · rw [ci_at]
      · rw [ci_ne _ _ _ (by decide), ci_at, ca_setI, ca_setOt, xa, co_setOt, xoj 1 (by decide)]
        rfl
      · rw [cot_setI, cot_setI, cot_setI, cot_at, hv]
    cases hw : s.w with
    | none =>
      rw [xw, hw]
      exact go none hw.symm
    | some b =>
      rw [xw, hw]
      exact go (some b) hw.symm
  · exact ok_some ⟨⟨⟨xa, xb, xl, xr⟩, xw, xh, xL, xk, xol⟩, fun j q1 q2 q3 q4 => xi j q3, x68, fun x hx => ⟨xo x hx, by show X.ot x = s.ot x; rw [xot]⟩, ⟨xo0, xoj⟩, Or.inr ⟨c, xi 73 (by decide), xi 66 (by decide), by show X.ot a = s.ot a; rw [xot]⟩⟩
theorem q_lb7 {N : Nat} (hN : 1000 ≤ N) {H : Nat} {s : CS} {a : Nat} (h0d : 0 ≤ dpI s) (hd : dpI s ≤ 22) (ha : oK s a 1) (hb : 0 ≤ (s.o a 3).toInt) : ∀ (n : Nat) (σ : CS) (x2 : Int32), LBR H s σ → -1 ≤ x2.toInt → x2.toInt < n → ok (f_X3_leaveBody_7 N (n + 1) σ a x2) (fun R => ∃ σ', LBR H s σ' ∧ FINB σ' R.2 a)
  | n, σ, x2, h, h1, hn => by
    show ok (b_X3_leaveBody_7 N (f_X3_leaveBody_7 N n) σ a x2) _
    unfold b_X3_leaveBody_7
    have q := h.2.2.2.1 a ha
    refine ok_chk q.1 ?_
    by_cases c : x2 < σ.o a 3
    · rw [if_pos c]
      exact ok_imp (q_fin q.1) (fun R hR => ⟨σ, h, hR⟩)
    · rw [if_neg c]
      have ge : (s.o a 3).toInt ≤ x2.toInt := by
        have := le_int (Int32.not_lt.mp c)
        rw [q.2.1] at this; exact this
      have e1 : (-1 : Int32).toInt = -1 := by decide
      have l2 := Int32.toInt_lt x2
      have es : (x2 + (-1)).toInt = x2.toInt - 1 := by rw [toInt_add] <;> rw [e1] <;> omega
      have ed : dpI σ = dpI s := by unfold dpI; rw [h.2.2.2.2.2.1 67 (by omega)]
      refine ok_bind (q_close hN h.1 h.2.1 (by rw [ed]; exact h0d) (by rw [ed]; exact hd) _) (fun p hp => ?_)
      obtain ⟨n', rfl⟩ : ∃ n', n = n' + 1 := ⟨n - 1, by omega⟩
      exact q_lb7 hN h0d hd ha hb n' p.2 (x2 + (-1)) (h.tr hp) (by omega) (by omega)
  termination_by n => n
theorem q_lb {N : Nat} (hN : 10000000000 ≤ N) {H : Nat} {s : CS} {a : Nat} (hr : REFS s) (hm : ROOM H s) (h0d : 0 ≤ dpI s) (hd : dpI s ≤ 22) (ha : oK s a 1) (hb : 0 ≤ (s.o a 3).toInt) (h68 : 0 ≤ (s.i 68).toInt) : ok (f_X3_leaveBody N s a) (fun R => ∃ σ', LBR H s σ' ∧ FINB σ' R.2 a) := by
  unfold f_X3_leaveBody
  obtain ⟨N', rfl⟩ : ∃ N', N = N' + 1 := ⟨N - 1, by omega⟩
  have e1 : (1 : Int32).toInt = 1 := by decide
  have l2 : (s.i 68).toInt < 2147483648 := by have := Int32.toInt_lt (s.i 68); omega
  have es : (s.i 68 - 1).toInt = (s.i 68).toInt - 1 := by rw [toInt_sub] <;> rw [e1] <;> omega
  exact q_lb7 (by omega) h0d hd ha hb N' s (s.i 68 - 1) (LBR.rf hr hm) (by omega) (by omega)
/-- a finally begins -/
def FINF (s R : CS) (a : Nat) : Prop := ((R.a = s.a ∧ R.b = s.b ∧ R.l = s.l ∧ R.r = s.r) ∧ (R.w = s.w ∧ R.hs = s.hs ∧ R.L = s.L ∧ R.k = s.k ∧ R.ol = s.ol)) ∧ (∀ j : Nat, j ≠ 65 → j ≠ 66 → j ≠ 73 → R.i j = s.i j) ∧ (∀ x : Nat, x ≠ a → R.o x = s.o x ∧ R.ot x = s.ot x) ∧ (R.o a 0 = 3 ∧ R.o a 3 = s.o a 3 ∧ R.o a 5 = s.i 73 ∧ R.o a 7 = s.i 75) ∧ R.i 73 = 0 ∧ R.i 66 = tg s (s.o a 1 + 1) ∧ R.ot a = s.w
theorem q_ef {N : Nat} {s : CS} {a : Nat} (ha : oK s a 1) : ok (f_X3_enterFinally N s a) (fun R => FINF s R.2 a) := by
  unfold f_X3_enterFinally
  rw [if_pos ha]
  have go : ∀ v : Option Nat, v = s.w → ok ((f_X3_begin N (CS.setO (CS.setO (CS.setO (CS.setOt (CS.setO s a 0 3) a v) a 5 (s.i 73)) a 6 (s.i 74)) a 7 (s.i 75)) a ((CS.o (CS.setO (CS.setO (CS.setO (CS.setOt (CS.setO s a 0 3) a v) a 5 (s.i 73)) a 6 (s.i 74)) a 7 (s.i 75)) a 1) + 1)).bind fun p4 => some ((), p4.2)) (fun R => FINF s R.2 a) := fun v hv => by
    obtain ⟨X, hX⟩ : ∃ X, X = CS.setO (CS.setO (CS.setO (CS.setOt (CS.setO s a 0 3) a v) a 5 (s.i 73)) a 6 (s.i 74)) a 7 (s.i 75) := ⟨_, rfl⟩
    have xi : X.i = s.i := by rw [hX, ci_setO, ci_setO, ci_setO, ci_setOt, ci_setO]
    have xa : X.a = s.a := by rw [hX, ca_setO, ca_setO, ca_setO, ca_setOt, ca_setO]
    have xb : X.b = s.b := by rw [hX, cb_setO, cb_setO, cb_setO, cb_setOt, cb_setO]
    have xl : X.l = s.l := by rw [hX, cl_setO, cl_setO, cl_setO, cl_setOt, cl_setO]
    have xr : X.r = s.r := by rw [hX, cr_setO, cr_setO, cr_setO, cr_setOt, cr_setO]
    have xw : X.w = s.w := by rw [hX, cw_setO, cw_setO, cw_setO, cw_setOt, cw_setO]
    have xh : X.hs = s.hs := by rw [hX, chs_setO, chs_setO, chs_setO, chs_setOt, chs_setO]
    have xL : X.L = s.L := by rw [hX, cL_setO, cL_setO, cL_setO, cL_setOt, cL_setO]
    have xk : X.k = s.k := by rw [hX, ck_setO, ck_setO, ck_setO, ck_setOt, ck_setO]
    have xol : X.ol = s.ol := by rw [hX, col_setO, col_setO, col_setO, col_setOt, col_setO]
    have xot : X.ot a = v := by rw [hX, cot_setO, cot_setO, cot_setO, cot_at]
    have xotn : ∀ x : Nat, x ≠ a → X.ot x = s.ot x := fun x hx => by rw [hX, cot_setO, cot_setO, cot_setO, cot_ne _ _ _ hx, cot_setO]
    have xo : ∀ x : Nat, x ≠ a → X.o x = s.o x := fun x hx => by rw [hX, setO_ne hx, setO_ne hx, setO_ne hx, co_setOt, setO_ne hx]
    have xo0 : X.o a 0 = 3 := by rw [hX, setO_k (by decide), setO_k (by decide), setO_k (by decide), co_setOt, setO_at]
    have xo1 : X.o a 1 = s.o a 1 := by rw [hX, setO_k (by decide), setO_k (by decide), setO_k (by decide), co_setOt, setO_k (by decide)]
    have xo3 : X.o a 3 = s.o a 3 := by rw [hX, setO_k (by decide), setO_k (by decide), setO_k (by decide), co_setOt, setO_k (by decide)]
    have xo5 : X.o a 5 = s.i 73 := by rw [hX, setO_k (by decide), setO_k (by decide), setO_at]
    have xo7 : X.o a 7 = s.i 75 := by rw [hX, setO_at]
    rw [← hX]
    clear hX
    unfold f_X3_begin
    rw [if_pos (show oK X a 1 by unfold oK; rw [xL, xk]; exact ha)]
    refine ok_some ?_
    show FINF s (CS.setI (CS.setI (CS.setI X 65 (X.o a 2)) 66 (gAt (CS.a (CS.setI X 65 (X.o a 2)) 17) 1024 (X.o a 1 + 1))) 73 0) a
    refine ⟨⟨⟨?_, ?_, ?_, ?_⟩, ?_, ?_, ?_, ?_, ?_⟩, fun j q1 q2 q4 => ?_, fun x hx => ⟨?_, ?_⟩, ⟨?_, ?_, ?_, ?_⟩, ?_, ?_, ?_⟩
    · rw [ca_setI, ca_setI, ca_setI, xa]
    · rw [cb_setI, cb_setI, cb_setI, xb]
    · rw [cl_setI, cl_setI, cl_setI, xl]
    · rw [cr_setI, cr_setI, cr_setI, xr]
    · rw [cw_setI, cw_setI, cw_setI, xw]
    · rw [chs_setI, chs_setI, chs_setI, xh]
    · rw [cL_setI, cL_setI, cL_setI, xL]
    · rw [ck_setI, ck_setI, ck_setI, xk]
    · rw [col_setI, col_setI, col_setI, xol]
    · rw [ci_ne _ _ _ q4, ci_ne _ _ _ q2, ci_ne _ _ _ q1, xi]
    · rw [co_setI, co_setI, co_setI, xo x hx]
    · rw [cot_setI, cot_setI, cot_setI, xotn x hx]
    · rw [co_setI, co_setI, co_setI, xo0]
    · rw [co_setI, co_setI, co_setI, xo3]
    · rw [co_setI, co_setI, co_setI, xo5]
    · rw [co_setI, co_setI, co_setI, xo7]
    · rw [ci_at]
    · rw [ci_ne _ _ _ (by decide), ci_at, ca_setI, xa, xo1]
      rfl
    · rw [cot_setI, cot_setI, cot_setI, xot, hv]
  cases hw : s.w with
  | none =>
    rw [cw_setO, hw]
    exact go none hw.symm
  | some b =>
    rw [cw_setO, hw]
    exact go (some b) hw.symm
end
section
/-! the class's machine: one frame is left -/
theorem HLD.tail {s : CS} : ∀ {c : List Nat}, HLD s c → HLD s c.tail
  | [], h => h
  | _ :: _, h => h.2
theorem MW.pv {s R : CS} {D : Nat → List Nat} {k : Int} {c : List Nat} (h : MW s D k c) (hp : PV s R) (e66 : R.i 66 = s.i 66) : MW R D (k + 1) c := by
  have e73 : R.i 73 = s.i 73 := hp.2.1 73 (by omega)
  have e75 : R.i 75 = s.i 75 := hp.2.1 75 (by omega)
  have ew : R.w = s.w := hp.1.2.2.2.2.2.2.2.1
  rcases h with ⟨h1, h2, h3⟩ | ⟨h1, h2, h3, h4⟩ | ⟨h1, h2, h3, h4⟩
  · refine Or.inl ⟨e73.trans h1, hp.hld h2, ?_⟩
    unfold ONP szI at *
    rw [e66, hp.2.1 20 (by omega)]
    exact ⟨h3.1, by omega, h3.2.2⟩
  · refine Or.inr (Or.inl ⟨by rw [e73]; exact h1, by rw [hp.ceq.lv, e75]; exact h2, hp.hld h3, ?_⟩)
    rcases h4 with h4 | h4
    · exact Or.inl (hp.hld h4)
    · exact Or.inr (by unfold GOL at *; rw [e75]; exact h4)
  · exact Or.inr (Or.inr ⟨by rw [e73]; exact h1, e75.trans h2, hp.hld h3, fun q => by rw [ew]; exact h4 (e73.symm.trans q)⟩)
theorem MI.pq {H : Nat} {s R : CS} {D : Nat → List Nat} {k : Int} (h : MI H s D k) (hp : PV s R) (e66 : R.i 66 = s.i 66) : MI H R D (k + 1) := by
  obtain ⟨a1, a2, a3, a4, c, b1, b2, b3, b4⟩ := h
  refine ⟨hp.refs a1, hp.room a2, hp.ceq.wt a3, by rw [hp.2.1 68 (by omega)]; omega, c, ?_, b2, hp.frm (by omega) b3, b4.pv hp e66⟩
  unfold dpI at *; rw [hp.2.1 67 (by omega)]; exact b1
theorem q_top {N : Nat} {s : CS} {D : Nat → List Nat} {k : Int} {c : List Nat} (hl : (c.length : Int) = dpI s) (h22 : c.length ≤ 22) (hf : FRM s D k c) : (c = [] ∧ f_X3_frame N s (s.i 67 - 1) = some (none, s)) ∨ ∃ (ph a : Nat) (r : List Nat), c = ph :: r ∧ f_X3_frame N s (s.i 67 - 1) = some (some a, s) ∧ s.r 61 r.length = some a ∧ oK s a 1 ∧ (s.o a 0).toInt = (ph : Int) ∧ FR1 s D k a ph r ∧ FRM s D k r := by
  have e1 : (1 : Int32).toInt = 1 := by decide
  have e24 : (24 : Int32).toInt = 24 := by decide
  have hl' : (s.i 67).toInt = (c.length : Int) := hl.symm
  have es : (s.i 67 - 1).toInt = (c.length : Int) - 1 := by rw [toInt_sub] <;> rw [e1] <;> omega
  unfold f_X3_frame f_X3_frame_30
  match c, hf, hl', es, h22 with
  | [], _, hl', es, _ =>
    left
    have c0 : s.i 67 - 1 < 0 := Int32.lt_iff_toInt_lt.mpr (by rw [z_t0, es]; show ((0 : Nat) : Int) - 1 < 0; omega)
    exact ⟨rfl, if_pos c0⟩
  | ph :: r, ⟨⟨a, h1, h2, h3, h4⟩, h5⟩, hl', es, h22 =>
    right
    have es : (s.i 67 - 1).toInt = (r.length : Int) := by rw [es]; show ((r.length + 1 : Nat) : Int) - 1 = _; omega
    have hl' : (s.i 67).toInt = (r.length : Int) + 1 := by rw [hl']; show ((r.length + 1 : Nat) : Int) = _; omega
    have h22 : r.length + 1 ≤ 22 := h22
    have c0 : ¬ s.i 67 - 1 < 0 := fun q => by have := lt_int q; rw [z_t0] at this; omega
    have c1 : ¬ s.i 67 ≤ s.i 67 - 1 := fun q => by have := le_int q; omega
    have c2 : ¬ (24 : Int32) ≤ s.i 67 - 1 := fun q => by have := le_int q; omega
    have cn : (s.i 67 - 1).toNatClampNeg = r.length := by
      have := clampI (k := s.i 67 - 1) (by omega)
      omega
    refine ⟨ph, a, r, rfl, ?_, h1, h2, h3, h4, h5⟩
    rw [if_neg c0, if_neg c1, if_neg c2, if_pos (show ib (s.i 67 - 1) 24 from ⟨by omega, by omega⟩), cn, h1]
    rfl
theorem q_arrive {N H : Nat} {s : CS} {D : Nat → List Nat} {k : Int} {c : List Nat} (hk : 0 ≤ k) (h : MI H s D k) (hl : (c.length : Int) = dpI s) (h22 : c.length ≤ 22) (hf : FRM s D k c) (hw : MW s D k c) (h0 : ¬ s.i 73 = 0) (hg : (s.i 73 = 1 ∨ s.i 73 = 2) → HLD s c ∧ VT s D (s.i 75 / 32) c) : ok (f_X3_arrive N s) (fun R => MI H R.2 D (k + 1) ∧ MR s R.2) := by
  unfold f_X3_arrive
  have fin : ∀ X : CS, PQ s X → (s.i 73 = 1 ∨ s.i 73 = 2) → ok (f_X3_arrive_48 N X) (fun R => MI H R.2 D (k + 1) ∧ MR s R.2) := fun X hX hq => by
    obtain ⟨g1, g2⟩ := hg hq
    unfold f_X3_arrive_48
    refine ok_some ?_
    obtain ⟨T, hT⟩ : ∃ T, T = CS.setI (CS.setI X 66 (gAt (X.a 17) 1024 ((X.i 75) / 32))) 73 0 := ⟨_, rfl⟩
    have ti : ∀ j : Nat, j ≠ 66 → j ≠ 73 → T.i j = X.i j := fun j q1 q2 => by rw [hT, ci_ne _ _ _ q2, ci_ne _ _ _ q1]
    have t66 : T.i 66 = tg s (s.i 75 / 32) := by
      rw [hT, ci_ne _ _ _ (by decide), ci_at, hX.1.2.1 75 (by omega), hX.1.2.2 17 (by omega)]
      rfl
    have t73 : T.i 73 = 0 := by rw [hT, ci_at]
    have pv : PV X (CS.setI X 66 (gAt (X.a 17) 1024 ((X.i 75) / 32))) := (PV.rf X).i 66 _ (by decide)
    have base : T.hs = X.hs ∧ T.L = X.L ∧ T.k = X.k ∧ T.o = X.o ∧ T.ol = X.ol ∧ T.ot = X.ot ∧ T.r = X.r ∧ T.w = X.w ∧ T.b = X.b ∧ T.l = X.l ∧ T.a = X.a := by
      rw [hT, chs_setI, chs_setI, cL_setI, cL_setI, ck_setI, ck_setI, co_setI, co_setI, col_setI, col_setI, cot_setI, cot_setI, cr_setI, cr_setI, cw_setI, cw_setI, cb_setI, cb_setI, cl_setI, cl_setI, ca_setI, ca_setI]
      exact ⟨rfl, rfl, rfl, rfl, rfl, rfl, rfl, rfl, rfl, rfl, rfl⟩
    show MI H (CS.setI (CS.setI X 66 (gAt (X.a 17) 1024 ((X.i 75) / 32))) 73 0) D (k + 1) ∧ MR s (CS.setI (CS.setI X 66 (gAt (X.a 17) 1024 ((X.i 75) / 32))) 73 0)
    rw [← hT]
    clear hT pv
    obtain ⟨b1, b2, b3, b4, b5, b6, b7, b8, b9, b10, b11⟩ := base
    have r1 := hX.1.refs h.1
    have r2 := hX.1.room h.2.1
    have ok' : ∀ {x t : Nat}, oK T x t = oK X x t := fun {x t} => by unfold oK; rw [b2, b3]
    have mr : MR X T := ⟨fun j hj => ti j (by omega) (by omega), fun _ _ => by rw [b11], b9, b10, by rw [b7], fun x hx => ⟨by rw [ok']; exact hx, by rw [b4], by rw [b5]⟩⟩
    have ceq := hX.1.ceq.tr mr.ceq
    have fk : ∀ i a : Nat, i < c.length → s.r 61 i = some a → T.r 61 i = some a ∧ (oK s a 1 → oK T a 1) ∧ T.o a = s.o a ∧ T.ot a = s.ot a := fun i a _ e => ⟨by rw [b7, hX.1.1.2.2.2.2.2.2.1]; exact e, fun q => by rw [ok', hX.1.ok1]; exact q, by rw [b4, hX.1.1.2.2.2.1], by rw [b6, hX.1.1.2.2.2.2.2.1]⟩
    refine ⟨⟨?_, ?_, ceq.wt h.2.2.1, ?_, c, ?_, h22, hf.of ceq (by omega) fk, Or.inl ⟨t73, g1.of (fun i a hi e => ⟨(fk i a hi e).1, fun q => by rw [(fk i a hi e).2.2.2]; exact q⟩), ?_⟩⟩, hX.1.mr.tr mr⟩
    · unfold REFS inP oK at *; rw [b1, b2, b3, b6, b7, b8]; exact r1
    · unfold ROOM at *; rw [b1, b7]; exact r2
    · rw [ti 68 (by decide) (by decide), hX.1.2.1 68 (by omega)]; have := h.2.2.2.1; omega
    · unfold dpI at *; rw [ti 67 (by decide) (by decide), hX.1.2.1 67 (by omega)]; exact hl
    · have g2' : VT T D (s.i 75 / 32) c := by rw [ceq.vt]; exact g2
      refine VN.on (n := (tg T (s.i 75 / 32)).toInt) g2' (by omega) ?_
      rw [t66]; unfold tg; rw [ceq.2.2.1]
  have pv72 : ∀ v : Int32, MI H (CS.setI s 72 v) D (k + 1) ∧ MR s (CS.setI s 72 v) := fun v => by
    have pv : PV s (CS.setI s 72 v) := (PV.rf s).i 72 v (by decide)
    exact ⟨h.pq pv (ci_ne _ _ _ (by decide)), pv.mr⟩
  refine ok_ite (fun _ => ok_some (pv72 1)) (fun c3 => ok_ite (fun _ => ok_some (pv72 2)) (fun c4 => ?_))
  have h12 : s.i 73 = 1 ∨ s.i 73 = 2 := by
    rcases hw with q | q | q
    · exact absurd q.1 h0
    · exact q.1
    · rcases q.1 with q | q
      · exact absurd q c3
      · exact absurd q c4
  exact ok_ite (fun _ => ok_bind (q_push N s _) (fun p hp => fin p.2 hp h12)) (fun _ => fin s (PQ.rf s) h12)
theorem q_leaveOne {N : Nat} (hN : 10000000000 ≤ N) {H : Nat} {s : CS} {D : Nat → List Nat} {k : Int} (hk : 0 ≤ k) (h : MI H s D k) (h0 : ¬ s.i 73 = 0) : ok (f_X3_leaveOne N s) (fun R => MI H R.2 D (k + 1) ∧ MR s R.2) := by
  obtain ⟨hr, hm, hwt, h68, c, hl, h22, hf, hw⟩ := (show MI H s D k from h)
  unfold f_X3_leaveOne f_X3_leaveOne_29
  have arr : ((s.i 73 = 1 ∨ s.i 73 = 2) → HLD s c ∧ VT s D (s.i 75 / 32) c) → ok ((f_X3_arrive N s).bind fun p7 => some ((), p7.2)) (fun R => MI H R.2 D (k + 1) ∧ MR s R.2) := fun hg => ok_bind (q_arrive hk h hl h22 hf hw h0 hg) (fun p hp => ok_some hp)
  rcases q_top (N := N) hl h22 hf with ⟨e1, e2⟩ | ⟨ph, a, r, e1, e2, e3, e4, e5, e6, e7⟩
  · rw [e2]
    show ok ((f_X3_arrive N s).bind fun p7 => some ((), p7.2)) _
    refine arr (fun q => ?_)
    rcases hw with z | z | z
    · exact absurd z.1 h0
    · obtain ⟨g, g1, g2, g3⟩ := z.2.1
      rw [e1] at g2 g3 ⊢
      have g2 : g ≤ 0 := g2
      refine ⟨True.intro, ?_⟩
      have e : ([] : List Nat).drop (([] : List Nat).length - g) = [] := List.drop_nil
      rw [e] at g3
      exact g3
    · rcases z.1 with y | y <;> rcases q with q | q <;> rw [y] at q <;> exact absurd q (by decide)
  rw [e2]
  show ok (if ((s.i 75) - (s.i 75) / 32 * 32) < (s.i 67) then if oK s a 1 then (if (CS.o s a 0) = 1 then (f_X3_leaveBody N s a).bind fun p27 => some ((), p27.2) else (if (CS.o s a 0) = 2 then (if (gAt (s.a 17) 1024 ((CS.o s a 1) + 1)) < 0 then f_X3_leaveOne_87 N s a else (f_X3_enterFinally N s a).bind fun p23 => some ((), p23.2)) else f_X3_leaveOne_87 N s a)) else none else ((f_X3_arrive N s).bind fun p7 => some ((), p7.2))) _
  subst e1
  have hl' : (r.length : Int) + 1 = dpI s := by rw [← hl]; show _ = ((r.length + 1 : Nat) : Int); omega
  have h22' : r.length + 1 ≤ 22 := h22
  by_cases cg : ((s.i 75) - (s.i 75) / 32 * 32) < (s.i 67)
  case neg =>
    rw [if_neg cg]
    refine arr (fun q => ?_)
    have ge : dpI s ≤ GOL s := le_int (Int32.not_lt.mp cg)
    rcases hw with z | z | z
    · exact absurd z.1 h0
    · obtain ⟨g, g1, g2, g3⟩ := z.2.1
      have g1' : GOL s = (g : Int) := g1
      have g2' : g ≤ r.length + 1 := g2
      have eg : g = r.length + 1 := by omega
      refine ⟨z.2.2.2.resolve_right (fun y => ?_), ?_⟩
      · have y : GOL s < ((r.length + 1 : Nat) : Int) := y
        omega
      · have e : (ph :: r).drop ((ph :: r).length - g) = ph :: r := by
          have : (ph :: r).length - g = 0 := by show r.length + 1 - g = 0; omega
          rw [this]; rfl
        rw [e] at g3
        exact g3
    · rcases z.1 with y | y <;> rcases q with q | q <;> rw [y] at q <;> exact absurd q (by decide)
  rw [if_pos cg, if_pos e4]
  have lt : GOL s < dpI s := lt_int cg
  have lt' : (s.i 75 - s.i 75 / 32 * 32).toInt < (r.length : Int) + 1 := by rw [hl']; exact lt
  have ht : HLD s r := by
    rcases hw with z | z | z
    · exact absurd z.1 h0
    · exact z.2.2.1
    · exact z.2.2.1
  have way : s.i 73 = 1 ∨ s.i 73 = 2 ∨ s.i 73 = 3 ∨ s.i 73 = 4 := by
    rcases hw with z | z | z
    · exact absurd z.1 h0
    · rcases z.1 with q | q
      · exact Or.inl q
      · exact Or.inr (Or.inl q)
    · rcases z.1 with q | q
      · exact Or.inr (Or.inr (Or.inl q))
      · exact Or.inr (Or.inr (Or.inr q))
  have w12 : (s.i 73 = 1 ∨ s.i 73 = 2) → LVT s D (s.i 75) (ph :: r) := fun q => by
    rcases hw with z | z | z
    · exact absurd z.1 h0
    · exact z.2.1
    · rcases z.1 with y | y <;> rcases q with q | q <;> rw [y] at q <;> exact absurd q (by decide)
  have w34 : (s.i 73 = 3 ∨ s.i 73 = 4) → s.i 75 = 0 ∧ (s.i 73 = 4 → s.w ≠ none) := fun q => by
    rcases hw with z | z | z
    · exact absurd z.1 h0
    · rcases z.1 with y | y <;> rcases q with q | q <;> rw [y] at q <;> exact absurd q (by decide)
    · exact ⟨z.2.1, z.2.2.2⟩
  have dflt : ok (f_X3_leaveOne_87 N s a) (fun R => MI H R.2 D (k + 1) ∧ MR s R.2) := by
    unfold f_X3_leaveOne_87
    rw [if_pos e4]
    have fin : ∀ X : CS, PV s X → ok (f_X3_leaveOne_113 N X) (fun R => MI H R.2 D (k + 1) ∧ MR s R.2) := fun X hX => by
      unfold f_X3_leaveOne_113
      refine ok_some ?_
      obtain ⟨T, hT⟩ : ∃ T, T = CS.setI X 67 ((X.i 67) - 1) := ⟨_, rfl⟩
      have ti : ∀ j : Nat, j ≠ 67 → T.i j = X.i j := fun j q => by rw [hT, ci_ne _ _ _ q]
      have t67 : T.i 67 = s.i 67 - 1 := by rw [hT, ci_at, hX.2.1 67 (by omega)]
      have base : T.hs = X.hs ∧ T.L = X.L ∧ T.k = X.k ∧ T.o = X.o ∧ T.ol = X.ol ∧ T.ot = X.ot ∧ T.r = X.r ∧ T.w = X.w ∧ T.b = X.b ∧ T.l = X.l ∧ T.a = X.a := by
        rw [hT, chs_setI, cL_setI, ck_setI, co_setI, col_setI, cot_setI, cr_setI, cw_setI, cb_setI, cl_setI, ca_setI]
        exact ⟨rfl, rfl, rfl, rfl, rfl, rfl, rfl, rfl, rfl, rfl, rfl⟩
      show MI H (CS.setI X 67 ((X.i 67) - 1)) D (k + 1) ∧ MR s (CS.setI X 67 ((X.i 67) - 1))
      rw [← hT]
      clear hT
      obtain ⟨b1, b2, b3, b4, b5, b6, b7, b8, b9, b10, b11⟩ := base
      have r1 := hX.refs hr
      have r2 := hX.room hm
      have ok' : ∀ {x t : Nat}, oK T x t = oK X x t := fun {x t} => by unfold oK; rw [b2, b3]
      have mr : MR X T := ⟨fun j hj => ti j (by omega), fun _ _ => by rw [b11], b9, b10, by rw [b7], fun x hx => ⟨by rw [ok']; exact hx, by rw [b4], by rw [b5]⟩⟩
      have ceq := hX.ceq.tr mr.ceq
      have fk : ∀ i x : Nat, s.r 61 i = some x → T.r 61 i = some x ∧ (oK s x 1 → oK T x 1) ∧ T.o x = s.o x ∧ T.ot x = s.ot x := fun i x e => ⟨by rw [b7, hX.1.2.2.2.2.2.2.1]; exact e, fun q => by rw [ok', hX.ok1]; exact q, by rw [b4, hX.1.2.2.2.1], by rw [b6, hX.1.2.2.2.2.2.1]⟩
      have hT' : HLD T r := ht.of (fun i x _ e => ⟨(fk i x e).1, fun q => by rw [(fk i x e).2.2.2]; exact q⟩)
      have t73 : T.i 73 = s.i 73 := (ti 73 (by decide)).trans (hX.2.1 73 (by omega))
      have t75 : T.i 75 = s.i 75 := (ti 75 (by decide)).trans (hX.2.1 75 (by omega))
      have e1 : (1 : Int32).toInt = 1 := by decide
      have hl2 : (s.i 67).toInt = (r.length : Int) + 1 := hl'.symm
      refine ⟨⟨?_, ?_, ceq.wt hwt, ?_, r, ?_, by omega, e7.of ceq (by omega) (fun i x _ e => fk i x e), ?_⟩, hX.mr.tr mr⟩
      · unfold REFS inP oK at *; rw [b1, b2, b3, b6, b7, b8]; exact r1
      · unfold ROOM at *; rw [b1, b7]; exact r2
      · rw [ti 68 (by decide), hX.2.1 68 (by omega)]; omega
      · show (r.length : Int) = (T.i 67).toInt
        rw [t67, toInt_sub] <;> rw [e1] <;> omega
      · rcases way with q | q | q | q
        · exact Or.inr (Or.inl ⟨Or.inl (t73.trans q), by rw [ceq.lv, t75]; exact ((w12 (Or.inl q)).g (ph' := 0) lt').2, hT'.tail, Or.inl hT'⟩)
        · exact Or.inr (Or.inl ⟨Or.inr (t73.trans q), by rw [ceq.lv, t75]; exact ((w12 (Or.inr q)).g (ph' := 0) lt').2, hT'.tail, Or.inl hT'⟩)
        · exact Or.inr (Or.inr ⟨Or.inl (t73.trans q), t75.trans (w34 (Or.inl q)).1, hT'.tail, fun z => by rw [t73, q] at z; exact absurd z (by decide)⟩)
        · exact Or.inr (Or.inr ⟨Or.inr (t73.trans q), t75.trans (w34 (Or.inr q)).1, hT'.tail, fun _ => by rw [b8, hX.1.2.2.2.2.2.2.2.1]; exact (w34 (Or.inr q)).2 q⟩)
    refine ok_ite (fun _ => ?_) (fun _ => fin s (PV.rf s))
    refine ok_bind (q_note N (CS.setI s 71 ((s.i 71) - 1)) 4 _) (fun p hp => fin p.2 (((PV.rf s).i 71 _ (by decide)).tr hp.1))
  have a24 : r.length < 24 := by omega
  refine ok_ite (fun c1 => ?_) (fun c1 => ok_ite (fun c2 => ok_ite (fun _ => dflt) (fun c3 => ?_)) (fun _ => dflt))
  · have ph1 : ph = 1 := by
      have t1 : (1 : Int32).toInt = 1 := by decide
      rw [c1, t1] at e5; omega
    refine ok_bind (q_lb hN hr hm (by omega) (by omega) e4 e6.1.1 h68.1) (fun p hp => ok_some ?_)
    obtain ⟨σ, ls, f⟩ := hp
    obtain ⟨⟨⟨f1, f2, f3, f4⟩, f5, f6, f7, f8, f9⟩, f10, f11, f12, ⟨f13, f14⟩, f15⟩ := f
    obtain ⟨l1, l2, l3, l4, l5, l6, l7⟩ := ls
    have qa := l4 a e4
    have okR : ∀ {x t : Nat}, oK p.2 x t = oK σ x t := fun {x t} => by unfold oK; rw [f7, f8]
    have σ61 : σ.r 61 r.length = some a := by rw [l5]; exact e3
    have ceq : CEQ s p.2 := ⟨by rw [f1]; exact l3.2.1 15 (by omega), by rw [f1]; exact l3.2.1 16 (by omega), by rw [f1]; exact l3.2.1 17 (by omega), (f10 20 (by decide) (by decide) (by decide) (by decide)).trans (l3.1 20 (by omega))⟩
    have ceqσ : CEQ σ p.2 := ⟨by rw [f1], by rw [f1], by rw [f1], f10 20 (by decide) (by decide) (by decide) (by decide)⟩
    have fσ : FRM σ D k r := l4.frm hr l3.ceq l5 (Int.le_refl _) (by omega) e7
    have hσ : HLD σ r := l4.hld hr l5 (by omega) ht
    have hR : HLD p.2 r := hσ.tl l1 a24 σ61 (by rw [f4]) (fun x hx => (f12 x hx).2)
    have hnd : HND s D (s.o a 1) r := e6.2.1 (Or.inl ph1)
    have o1 : p.2.o a 1 = s.o a 1 := by rw [f14 1 (by decide), qa.2.1]
    have o3 : p.2.o a 3 = s.o a 3 := by rw [f14 3 (by decide), qa.2.1]
    refine ⟨⟨?_, ?_, ceq.wt hwt, ?_, 2 :: r, ?_, by show r.length + 1 ≤ 22; omega, ⟨⟨a, by rw [f4]; exact σ61, by rw [okR]; exact qa.1, by rw [f13]; decide, ⟨by rw [o3]; have := e6.1; omega, fun _ => by rw [o1, ceq.hn]; exact hnd, fun q => absurd q (by omega)⟩⟩, fσ.tl l1 a24 σ61 ceqσ (by rw [f4]) (by omega) (fun x hx => ⟨fun q => by rw [okR]; exact q, (f12 x hx).1, (f12 x hx).2⟩)⟩, ?_⟩, l3.tr ⟨fun j hj => f10 j (by omega) (by omega) (by omega) (by omega), fun _ _ => by rw [f1], f2, f3, by rw [f4], fun x hx => ⟨by rw [okR]; exact hx, (f12 x (fun q => by rw [q] at hx; have := hx.2; rw [qa.1.2] at this; omega)).1, by rw [f9]⟩⟩⟩
    · refine l1.fr (a := a) f6 f7 f8 f4 (fun b q => ?_) (fun x hx => (f12 x hx).2) (fun b q => ?_)
      · rw [f5] at q; exact l1.2.2.2.2.2.2.2.2 b q
      · rcases f15 with z | z
        · rw [z.2.2.2] at q; exact l1.2.2.2.2.2.2.2.2 b q
        · rw [z.2.2.2] at q; exact l1.2.2.2.2.2.2.2.1 r.length a b a24 σ61 q
    · unfold ROOM at *; rw [f6, f4]; exact l2
    · rw [f11, qa.2.1]; have := e6.1; omega
    · show ((r.length + 1 : Nat) : Int) = (p.2.i 67).toInt
      rw [f10 67 (by decide) (by decide) (by decide) (by decide), l6 67 (by omega)]
      have : (s.i 67).toInt = (r.length : Int) + 1 := hl'.symm
      omega
    · rcases f15 with ⟨z1, z2, z3, z4⟩ | ⟨z1, z2, z3, z4⟩
      · have wn : σ.w ≠ none := by
          rcases l7 with ⟨y1, y2, y3⟩ | y
          · rw [y3]
            have : s.i 73 = 4 := y1.symm.trans z1
            exact (w34 (Or.inr this)).2 this
          · exact y.2.2
        refine Or.inl ⟨z2, ⟨fun _ => ?_, hR⟩, ?_⟩
        · cases hwσ : σ.w with
          | none => exact absurd hwσ wn
          | some b => exact ⟨a, b, by rw [f4]; exact σ61, z4.trans hwσ⟩
        · have v : VT p.2 D (s.o a 1) (2 :: r) := by rw [ceq.vt]; exact hnd.1
          refine VN.on (n := (tg p.2 (s.o a 1)).toInt) v (by omega) ?_
          rw [z3, qa.2.1]
          unfold tg
          rw [f1]
      · rcases l7 with ⟨y1, y2, y3⟩ | y
        · have t73 : p.2.i 73 = s.i 73 := z2.trans y1
          have t75 : p.2.i 75 = s.i 75 := (f10 75 (by decide) (by decide) (by decide) (by decide)).trans y2
          have ng : ¬ s.i 73 = 4 := fun q => z1 (y1.trans q)
          have gl : GOL p.2 < (((2 :: r : List Nat).length : Nat) : Int) := by
            unfold GOL at *
            rw [t75]
            show _ < ((r.length + 1 : Nat) : Int)
            omega
          rcases way with q | q | q | q
          · exact Or.inr (Or.inl ⟨Or.inl (t73.trans q), by rw [ceq.lv, t75]; exact ((w12 (Or.inl q)).g lt').1, hR, Or.inr gl⟩)
          · exact Or.inr (Or.inl ⟨Or.inr (t73.trans q), by rw [ceq.lv, t75]; exact ((w12 (Or.inr q)).g lt').1, hR, Or.inr gl⟩)
          · exact Or.inr (Or.inr ⟨Or.inl (t73.trans q), t75.trans (w34 (Or.inl q)).1, hR, fun z => by rw [t73, q] at z; exact absurd z (by decide)⟩)
          · exact absurd q ng
        · exact absurd y.1 z1
  · have ph2 : ph = 2 := by
      have t1 : (2 : Int32).toInt = 2 := by decide
      rw [c2, t1] at e5; omega
    refine ok_bind (q_ef e4) (fun p hp => ok_some ?_)
    obtain ⟨⟨⟨f1, f2, f3, f4⟩, f5, f6, f7, f8, f9⟩, f10, f12, ⟨f13, f14, f15, f16⟩, f17, f18, f19⟩ := hp
    have okR : ∀ {x t : Nat}, oK p.2 x t = oK s x t := fun {x t} => by unfold oK; rw [f7, f8]
    have ceq : CEQ s p.2 := ⟨by rw [f1], by rw [f1], by rw [f1], f10 20 (by decide) (by decide) (by decide)⟩
    have hnd : HND s D (s.o a 1) r := e6.2.1 (Or.inr ph2)
    have hR : HLD p.2 r := ht.tl hr a24 e3 (by rw [f4]) (fun x hx => (f12 x hx).2)
    have fin0 : 0 ≤ (tg s (s.o a 1 + 1)).toInt := by
      have := le_int (Int32.not_lt.mp c3)
      rw [z_t0] at this; exact this
    refine ⟨⟨?_, ?_, ceq.wt hwt, by rw [f10 68 (by decide) (by decide) (by decide)]; omega, 3 :: r, ?_, by show r.length + 1 ≤ 22; omega, ⟨⟨a, by rw [f4]; exact e3, by rw [okR]; exact e4, by rw [f13]; decide, ⟨by rw [f14]; have := e6.1; omega, fun q => absurd q (by omega), fun _ => ⟨by rw [f15]; exact way, fun q => ?_, fun q => ?_, fun q => ?_⟩⟩⟩, e7.tl hr a24 e3 ceq (by rw [f4]) (by omega) (fun x hx => ⟨fun q => by rw [okR]; exact q, (f12 x hx).1, (f12 x hx).2⟩)⟩, Or.inl ⟨f17, ⟨fun q => absurd q (by omega), hR⟩, ?_⟩⟩, ⟨fun j hj => f10 j (by omega) (by omega) (by omega), fun _ _ => by rw [f1], f2, f3, by rw [f4], fun x hx => ⟨by rw [okR]; exact hx, (f12 x (fun q => by rw [q] at hx; have := hx.2; rw [e4.2] at this; omega)).1, by rw [f9]⟩⟩⟩
    · refine hr.fr (a := a) f6 f7 f8 f4 (fun b q => by rw [f5] at q; exact hr.2.2.2.2.2.2.2.2 b q) (fun x hx => (f12 x hx).2) (fun b q => by rw [f19] at q; exact hr.2.2.2.2.2.2.2.2 b q)
    · unfold ROOM at *; rw [f6, f4]; exact hm
    · show ((r.length + 1 : Nat) : Int) = (p.2.i 67).toInt
      rw [f10 67 (by decide) (by decide) (by decide)]
      have : (s.i 67).toInt = (r.length : Int) + 1 := hl'.symm
      omega
    · rw [f15] at q
      rw [ceq.lv, f16]
      exact ((w12 q).g (ph' := 0) lt').2
    · rw [f15] at q
      rw [f16]; exact (w34 q).1
    · rw [f15] at q
      rw [f19]; exact (w34 (Or.inr q)).2 q
    · have v : VT p.2 D (s.o a 1 + 1) (3 :: r) := by rw [ceq.vt]; exact hnd.2 fin0
      refine VN.on (n := (tg p.2 (s.o a 1 + 1)).toInt) v (by omega) ?_
      rw [f18]
      unfold tg
      rw [f1]
end
section
/-! the class's machine: instructions -/
theorem q_isUnder2 {N : Nat} {s : CS} {x2 : Int32} : ∀ (n : Nat) (x3 x4 : Int32), 0 ≤ x4.toInt → x4.toInt ≤ 12 → 12 - x4.toInt < n → ok (f_X10_isUnder_5 N n s x2 x3 x4) (fun R => R.2 = s ∧ (R.1 = 0 ∨ R.1 = 1))
  | 0, _, _, _, _, h => by omega
  | n + 1, x3, x4, h0, h12, hn => by
    show ok (b_X10_isUnder_5 N (f_X10_isUnder_5 N n) s x2 x3 x4) _
    unfold b_X10_isUnder_5 f_X10_isUnder_38
    have e12 : (12 : Int32).toInt = 12 := by decide
    have e1 : (1 : Int32).toInt = 1 := by decide
    refine ok_ite (fun _ => ok_some ⟨rfl, Or.inl rfl⟩) (fun c => ok_ite (fun _ => ok_some ⟨rfl, Or.inl rfl⟩) (fun _ => ok_ite (fun _ => ok_some ⟨rfl, Or.inr rfl⟩) (fun _ => ?_)))
    have l1 : x4.toInt < 12 := by
      have := lt_int (Int32.not_le.mp c)
      rw [e12] at this; exact this
    have es : (x4 + 1).toInt = x4.toInt + 1 := by rw [toInt_add] <;> rw [e1] <;> omega
    exact q_isUnder2 n _ (x4 + 1) (by omega) (by omega) (by omega)
theorem q_isUnder {N : Nat} (hN : 1000 ≤ N) {s : CS} {x1 x2 : Int32} : ok (f_X10_isUnder N s x1 x2) (fun R => R.2 = s ∧ (R.1 = 0 ∨ R.1 = 1)) := q_isUnder2 N x1 0 (by decide) (by decide) (by rw [z_t0]; omega)
theorem q_divide {N : Nat} (hN : 1000 ≤ N) {H : Nat} {s : CS} (hr : REFS s) (hm : ROOM H s) (h0d : 0 ≤ dpI s) (hd : dpI s ≤ 22) (x y z : Int32) : ok (f_X3_divide N s x y z) (fun R => PQ s R.2 ∨ RSD H s R.2) := by
  unfold f_X3_divide
  refine ok_ite (fun _ => ok_bind (q_raise hN hr hm h0d hd 2 0) (fun p hp => ok_some (Or.inr hp))) (fun c => ok_ite (fun _ => ?_) (fun _ => ?_))
  · rw [if_neg c]; exact ok_bind (q_push N s _) (fun p hp => ok_some (Or.inl hp))
  · rw [if_neg c]; exact ok_bind (q_push N s _) (fun p hp => ok_some (Or.inl hp))
theorem q_combine {N : Nat} (hN : 1000 ≤ N) {H : Nat} {s : CS} (hr : REFS s) (hm : ROOM H s) (h0d : 0 ≤ dpI s) (hd : dpI s ≤ 22) (x : Int32) : ok (f_X3_combine N s x) (fun R => PQ s R.2 ∨ ∃ X, PQ s X ∧ RSD H X R.2) := by
  unfold f_X3_combine
  refine ok_bind (q_pop N s) (fun p hp => ok_bind (q_pop N p.2) (fun q hq => ?_))
  have hpq : PQ s q.2 := hp.tr hq
  have pp : ∀ (X : CS) (v : Int32), PQ s X → ok ((f_X3_push N X v).bind fun p => some ((), p.2)) (fun R => PQ s R.2 ∨ ∃ X, PQ s X ∧ RSD H X R.2) := fun X v hX => ok_bind (q_push N X v) (fun p hp => ok_some (Or.inl (hX.tr hp)))
  refine ok_ite (fun _ => ok_ite (fun _ => pp _ _ hpq) (fun _ => ok_ite (fun _ => pp _ _ hpq) (fun _ => ok_ite (fun _ => pp _ _ hpq) (fun _ => ?_)))) (fun _ => ?_)
  · have ed : dpI q.2 = dpI s := by unfold dpI; rw [hpq.1.2.1 67 (by omega)]
    refine ok_bind (q_divide hN (hpq.1.refs hr) (hpq.1.room hm) (by rw [ed]; exact h0d) (by rw [ed]; exact hd) _ _ _) (fun r hr' => ok_some ?_)
    rcases hr' with z | z
    · exact Or.inl (hpq.tr z)
    · exact Or.inr ⟨q.2, hpq, z⟩
  · refine ok_bind (q_compares N q.2 _ _ _) (fun r hr' => ?_)
    rw [hr']
    exact ok_ite (fun _ => pp _ _ hpq) (fun _ => pp _ _ hpq)
theorem q_fill {N : Nat} {s : CS} {x1 : Int32} : ∀ (n : Nat) (X : CS) (x3 : Int32), PQ s X → -1 ≤ x3.toInt → x3.toInt < n → ok (f_X3_fillRow_29 N (n + 1) X x1 x3) (fun R => PQ s R.2)
  | n, X, x3, hX, h1, hn => by
    show ok (b_X3_fillRow_29 N (f_X3_fillRow_29 N n) X x1 x3) _
    unfold b_X3_fillRow_29
    refine ok_ite (fun _ => ok_some hX) (fun c => ?_)
    have ge : 0 ≤ x3.toInt := by
      have := le_int (Int32.not_lt.mp c)
      rw [z_t0] at this; exact this
    have e1 : (-1 : Int32).toInt = -1 := by decide
    have l2 := Int32.toInt_lt x3
    have es : (x3 + (-1)).toInt = x3.toInt - 1 := by rw [toInt_add] <;> rw [e1] <;> omega
    refine ok_bind (q_pop N X) (fun p hp => ?_)
    obtain ⟨n', rfl⟩ : ∃ n', n = n' + 1 := ⟨n - 1, by omega⟩
    exact q_fill n' _ (x3 + (-1)) (hX.tr ⟨hp.1.a 59 _ (by decide), hp.2⟩) (by omega) (by omega)
  termination_by n => n
theorem q_fillRow {N : Nat} (hN : 10000000000 ≤ N) (s : CS) (x : Int32) : ok (f_X3_fillRow N s x) (fun R => PQ s R.2) := by
  unfold f_X3_fillRow
  refine ok_bind (q_pop N s) (fun p hp => ?_)
  obtain ⟨N', rfl⟩ : ∃ N', N = N' + 1 := ⟨N - 1, by omega⟩
  have hX : PQ s (CS.putA (CS.putA p.2 59 (gPut (p.2.a 59) 720 x 0)) 59 (gPut (CS.a (CS.putA p.2 59 (gPut (p.2.a 59) 720 x 0)) 59) 720 (x + 1) p.1)) := hp.tr ⟨((PV.rf p.2).a 59 _ (by decide)).a 59 _ (by decide), rfl⟩
  generalize CS.putA (CS.putA p.2 59 (gPut (p.2.a 59) 720 x 0)) 59 (gPut (CS.a (CS.putA p.2 59 (gPut (p.2.a 59) 720 x 0)) 59) 720 (x + 1) p.1) = X at hX ⊢
  by_cases c : -1 ≤ (p.1 - 1).toInt
  · have := Int32.toInt_lt (p.1 - 1)
    exact q_fill N' X (p.1 - 1) hX c (by omega)
  · show ok (b_X3_fillRow_29 (N' + 1) (f_X3_fillRow_29 (N' + 1) N') X x (p.1 - 1)) _
    unfold b_X3_fillRow_29
    rw [if_pos (Int32.lt_iff_toInt_lt.mpr (by rw [z_t0]; omega))]
    exact ok_some hX
/-- what an instruction that steers does to the place -/
def STR (s R : CS) (x y : Int32) : Prop := PV s R ∧ ((R.i 66 = s.i 66 ∧ ¬ x = 30) ∨ (R.i 66 = tg s y ∧ x.toInt ≤ 35))
theorem q_goIf {N : Nat} {s X : CS} {z y : Int32} (hX : PQ s X) : ok (f_X3_goIf N X z y) (fun R => PV s R.2 ∧ (R.2.i 66 = s.i 66 ∨ R.2.i 66 = tg s y)) := by
  unfold f_X3_goIf
  refine ok_ite (fun _ => ok_some ⟨hX.1, Or.inl hX.2⟩) (fun _ => ok_some ⟨hX.1.i 66 _ (by decide), Or.inr ?_⟩)
  show (CS.setI X 66 (gAt (X.a 17) 1024 y)).i 66 = _
  rw [ci_at, hX.1.2.2 17 (by omega)]
  rfl
theorem q_keep {N : Nat} {s : CS} {z y : Int32} : ok (f_X3_keep N s z y) (fun R => PV s R.2 ∧ (R.2.i 66 = s.i 66 ∨ R.2.i 66 = tg s y)) := by
  unfold f_X3_keep
  have k22 : ∀ v : Int32, ok (f_X3_keep_22 N s z y v) (fun R => PV s R.2 ∧ (R.2.i 66 = s.i 66 ∨ R.2.i 66 = tg s y)) := fun v => by
    unfold f_X3_keep_22
    refine ok_ite (fun _ => ok_some ⟨(PV.rf s).i 66 _ (by decide), Or.inr ?_⟩) (fun _ => ok_bind (q_pop N s) (fun p hp => ok_some ⟨hp.1, Or.inl hp.2⟩))
    show (CS.setI s 66 (gAt (s.a 17) 1024 y)).i 66 = _
    rw [ci_at]
    rfl
  exact ok_ite (fun _ => k22 0) (fun _ => k22 1)
theorem q_case {N : Nat} {s : CS} {y : Int32} : ok (f_X3_compareCase N s y) (fun R => PV s R.2 ∧ (R.2.i 66 = s.i 66 ∨ R.2.i 66 = tg s y)) := by
  unfold f_X3_compareCase
  refine ok_bind (q_pop N s) (fun p hp => ok_ite (fun _ => ok_bind (q_pop N p.2) (fun q hq => ok_some ?_)) (fun _ => ok_some ⟨hp.1, Or.inl hp.2⟩))
  have h := hp.tr hq
  refine ⟨h.1.i 66 _ (by decide), Or.inr ?_⟩
  show (CS.setI q.2 66 (gAt (q.2.a 17) 1024 y)).i 66 = _
  rw [ci_at, h.1.2.2 17 (by omega)]
  rfl
theorem q_steer {N : Nat} (hN : 10000000000 ≤ N) {s : CS} {x y : Int32} : ok (f_X3_steer N s x y) (fun R => STR s R.2 x y) := by
  unfold f_X3_steer f_X3_steer_83 f_X3_steer_102 f_X3_steer_133 f_X3_steer_174
  have e30 : (30 : Int32).toInt = 30 := by decide
  refine ok_ite (fun c => ok_some ⟨(PV.rf s).i 66 _ (by decide), Or.inr ⟨?_, by rw [c, e30]; omega⟩⟩) (fun c0 => ?_)
  · show (CS.setI s 66 (gAt (s.a 17) 1024 y)).i 66 = _
    rw [ci_at]
    rfl
  have two : ∀ {R : CS}, PV s R ∧ (R.i 66 = s.i 66 ∨ R.i 66 = tg s y) → x.toInt ≤ 35 → STR s R x y := fun {R} h hx => ⟨h.1, by
    rcases h.2 with q | q
    · exact Or.inl ⟨q, c0⟩
    · exact Or.inr ⟨q, hx⟩⟩
  have one : ∀ {R : CS}, PQ s R → STR s R x y := fun {R} h => ⟨h.1, Or.inl ⟨h.2, c0⟩⟩
  refine ok_ite (fun c => ?_) (fun _ => ok_ite (fun c => ?_) (fun _ => ok_ite (fun c => ?_) (fun _ => ok_ite (fun c => ?_) (fun _ => ok_ite (fun c => ?_) (fun _ => ok_ite (fun _ => ?_) (fun _ => ok_ite (fun _ => ?_) (fun _ => ?_)))))))
  · refine ok_bind (q_pop N s) (fun p hp => ok_ite (fun _ => ok_bind (q_goIf hp) (fun q hq => ok_some (two hq (by rw [c]; decide)))) (fun _ => ok_bind (q_goIf hp) (fun q hq => ok_some (two hq (by rw [c]; decide)))))
  · exact ok_ite (fun _ => ok_bind q_keep (fun q hq => ok_some (two hq (by rw [c]; decide)))) (fun _ => ok_bind q_keep (fun q hq => ok_some (two hq (by rw [c]; decide))))
  · exact ok_bind q_keep (fun q hq => ok_some (two hq (by rw [c]; decide)))
  · exact ok_bind q_case (fun q hq => ok_some (two hq (by rw [c]; decide)))
  · exact ok_ite (fun _ => ok_bind (q_goIf (PQ.rf s)) (fun q hq => ok_some (two hq (by rw [c]; decide)))) (fun _ => ok_bind (q_goIf (PQ.rf s)) (fun q hq => ok_some (two hq (by rw [c]; decide))))
  · exact ok_bind (q_fillRow hN s y) (fun q hq => ok_some (one hq))
  · exact ok_ite (fun _ => ok_bind (q_push N s 0) (fun q hq => ok_some (one hq))) (fun _ => ok_bind (q_push N s 1) (fun q hq => ok_some (one hq)))
  · exact ok_bind (q_push N s _) (fun q hq => ok_some (one ⟨hq.1.a 59 _ (by decide), hq.2⟩))
/-- what stands while the machine goes on -/
def MST (H : Nat) (s : CS) (D : Nat → List Nat) (k : Int) (c : List Nat) : Prop := REFS s ∧ ROOM H s ∧ WTC s D ∧ (0 ≤ (s.i 68).toInt ∧ (s.i 68).toInt ≤ k) ∧ ((c.length : Int) = dpI s ∧ c.length ≤ 21) ∧ FRM s D k c ∧ HLD s c ∧ s.i 73 = 0
theorem MST.pv {H : Nat} {s R : CS} {D : Nat → List Nat} {k : Int} {c : List Nat} (h : MST H s D k c) (hp : PV s R) : MST H R D k c := by
  obtain ⟨a1, a2, a3, a4, a5, a6, a7, a8⟩ := h
  refine ⟨hp.refs a1, hp.room a2, hp.ceq.wt a3, by rw [hp.2.1 68 (by omega)]; exact a4, ?_, hp.frm (Int.le_refl _) a6, hp.hld a7, (hp.2.1 73 (by omega)).trans a8⟩
  unfold dpI at *; rw [hp.2.1 67 (by omega)]; exact a5
theorem MST.on {H : Nat} {s : CS} {D : Nat → List Nat} {k n : Int} {c : List Nat} (hk : 0 ≤ k) (h : MST H s D k c) (v : VN s D n c) (e : (s.i 66).toInt = n) : MI H s D (k + 1) := by
  obtain ⟨a1, a2, a3, a4, a5, a6, a7, a8⟩ := h
  exact ⟨a1, a2, a3, by omega, c, a5.1, by omega, (PV.rf s).frm (by omega) a6, Or.inl ⟨a8, a7, v.on (by omega) e⟩⟩
theorem MST.rs {H : Nat} {s R : CS} {D : Nat → List Nat} {k : Int} {c : List Nat} (h : MST H s D k c) (r : RSD H s R) : MI H R D (k + 1) := by
  obtain ⟨a1, a2, a3, a4, a5, a6, a7, a8⟩ := h
  obtain ⟨b1, b2, b3, b4, b5, b6, b7, b8, b9, b10⟩ := r
  refine ⟨b1, b2, b3.ceq.wt a3, by rw [b4 68 (by decide) (by decide) (by decide)]; omega, c, ?_, by omega, b10.frm a1 b3.ceq b9 (by omega) (by omega) a6, Or.inr (Or.inr ⟨Or.inr b5, b6, b10.hld a1 b9 (by rw [List.length_tail]; omega) a7.tail, fun _ => b7⟩)⟩
  unfold dpI at *; rw [b4 67 (by decide) (by decide) (by decide)]; exact a5.1
/-- a way out is taken -/
theorem MST.go {H : Nat} {s : CS} {D : Nat → List Nat} {k : Int} {c : List Nat} (h : MST H s D k c) (w v t : Int32) (hw : (w = 1 ∨ w = 2) ∧ LVT s D t c ∨ w = 3 ∧ t = 0) : MI H (CS.setI (CS.setI (CS.setI s 73 w) 74 v) 75 t) D (k + 1) ∧ MR s (CS.setI (CS.setI (CS.setI s 73 w) 74 v) 75 t) := by
  obtain ⟨a1, a2, a3, a4, a5, a6, a7, a8⟩ := h
  obtain ⟨T, hT⟩ : ∃ T, T = CS.setI (CS.setI (CS.setI s 73 w) 74 v) 75 t := ⟨_, rfl⟩
  have ti : ∀ j : Nat, j ≠ 73 → j ≠ 74 → j ≠ 75 → T.i j = s.i j := fun j q1 q2 q3 => by rw [hT, ci_ne _ _ _ q3, ci_ne _ _ _ q2, ci_ne _ _ _ q1]
  have t73 : T.i 73 = w := by rw [hT, ci_ne _ _ _ (by decide), ci_ne _ _ _ (by decide), ci_at]
  have t75 : T.i 75 = t := by rw [hT, ci_at]
  have base : T.hs = s.hs ∧ T.L = s.L ∧ T.k = s.k ∧ T.o = s.o ∧ T.ol = s.ol ∧ T.ot = s.ot ∧ T.r = s.r ∧ T.w = s.w ∧ T.b = s.b ∧ T.l = s.l ∧ T.a = s.a := by
    rw [hT, chs_setI, chs_setI, chs_setI, cL_setI, cL_setI, cL_setI, ck_setI, ck_setI, ck_setI, co_setI, co_setI, co_setI, col_setI, col_setI, col_setI, cot_setI, cot_setI, cot_setI, cr_setI, cr_setI, cr_setI, cw_setI, cw_setI, cw_setI, cb_setI, cb_setI, cb_setI, cl_setI, cl_setI, cl_setI, ca_setI, ca_setI, ca_setI]
    exact ⟨rfl, rfl, rfl, rfl, rfl, rfl, rfl, rfl, rfl, rfl, rfl⟩
  rw [← hT]
  clear hT
  obtain ⟨b1, b2, b3, b4, b5, b6, b7, b8, b9, b10, b11⟩ := base
  have ok' : ∀ {x t : Nat}, oK T x t = oK s x t := fun {x t} => by unfold oK; rw [b2, b3]
  have mr : MR s T := ⟨fun j hj => ti j (by omega) (by omega) (by omega), fun _ _ => by rw [b11], b9, b10, by rw [b7], fun x hx => ⟨by rw [ok']; exact hx, by rw [b4], by rw [b5]⟩⟩
  have fk : FK s T := fun x hx => ⟨by rw [ok']; exact hx, by rw [b4], by rw [b6]⟩
  have hh : HLD T c := fk.hld a1 (by rw [b7]) (by omega) a7
  refine ⟨⟨?_, ?_, mr.ceq.wt a3, by rw [ti 68 (by decide) (by decide) (by decide)]; omega, c, ?_, by omega, fk.frm a1 mr.ceq (by rw [b7]) (by omega) (by omega) a6, ?_⟩, mr⟩
  · unfold REFS inP oK at *; rw [b1, b2, b3, b6, b7, b8]; exact a1
  · unfold ROOM at *; rw [b1, b7]; exact a2
  · unfold dpI at *; rw [ti 67 (by decide) (by decide) (by decide)]; exact a5.1
  · rcases hw with ⟨q1, q2⟩ | ⟨q1, q2⟩
    · exact Or.inr (Or.inl ⟨by rw [t73]; exact q1, by rw [mr.ceq.lv, t75]; exact q2, hh.tail, Or.inl hh⟩)
    · exact Or.inr (Or.inr ⟨Or.inl (t73.trans q1), t75.trans q2, hh.tail, fun z => by rw [t73, q1] at z; exact absurd z (by decide)⟩)
/-- what a frame holds is thrown again -/
theorem MST.again {H : Nat} {s : CS} {D : Nat → List Nat} {k : Int} {c : List Nat} (h : MST H s D k c) (b : Nat) (hb : inP s b) : MI H (CS.setI (CS.setI (CS.setI (CS.setW s (some b)) 73 4) 74 0) 75 0) D (k + 1) ∧ MR s (CS.setI (CS.setI (CS.setI (CS.setW s (some b)) 73 4) 74 0) 75 0) := by
  obtain ⟨a1, a2, a3, a4, a5, a6, a7, a8⟩ := h
  obtain ⟨T, hT⟩ : ∃ T, T = CS.setI (CS.setI (CS.setI (CS.setW s (some b)) 73 4) 74 0) 75 0 := ⟨_, rfl⟩
  have ti : ∀ j : Nat, j ≠ 73 → j ≠ 74 → j ≠ 75 → T.i j = s.i j := fun j q1 q2 q3 => by rw [hT, ci_ne _ _ _ q3, ci_ne _ _ _ q2, ci_ne _ _ _ q1, ci_setW]
  have t73 : T.i 73 = 4 := by rw [hT, ci_ne _ _ _ (by decide), ci_ne _ _ _ (by decide), ci_at]
  have t75 : T.i 75 = 0 := by rw [hT, ci_at]
  have tw : T.w = some b := by rw [hT, cw_setI, cw_setI, cw_setI, cw_at]
  have base : T.hs = s.hs ∧ T.L = s.L ∧ T.k = s.k ∧ T.o = s.o ∧ T.ol = s.ol ∧ T.ot = s.ot ∧ T.r = s.r ∧ T.b = s.b ∧ T.l = s.l ∧ T.a = s.a := by
    rw [hT, chs_setI, chs_setI, chs_setI, cL_setI, cL_setI, cL_setI, ck_setI, ck_setI, ck_setI, co_setI, co_setI, co_setI, col_setI, col_setI, col_setI, cot_setI, cot_setI, cot_setI, cr_setI, cr_setI, cr_setI, cb_setI, cb_setI, cb_setI, cl_setI, cl_setI, cl_setI, ca_setI, ca_setI, ca_setI, chs_setW, cL_setW, ck_setW, co_setW, col_setW, cot_setW, cr_setW, cb_setW, cl_setW, ca_setW]
    exact ⟨rfl, rfl, rfl, rfl, rfl, rfl, rfl, rfl, rfl, rfl⟩
  rw [← hT]
  clear hT
  obtain ⟨b1, b2, b3, b4, b5, b6, b7, b9, b10, b11⟩ := base
  have ok' : ∀ {x t : Nat}, oK T x t = oK s x t := fun {x t} => by unfold oK; rw [b2, b3]
  have mr : MR s T := ⟨fun j hj => ti j (by omega) (by omega) (by omega), fun _ _ => by rw [b11], b9, b10, by rw [b7], fun x hx => ⟨by rw [ok']; exact hx, by rw [b4], by rw [b5]⟩⟩
  have fk : FK s T := fun x hx => ⟨by rw [ok']; exact hx, by rw [b4], by rw [b6]⟩
  have hh : HLD T c := fk.hld a1 (by rw [b7]) (by omega) a7
  refine ⟨⟨?_, ?_, mr.ceq.wt a3, by rw [ti 68 (by decide) (by decide) (by decide)]; omega, c, ?_, by omega, fk.frm a1 mr.ceq (by rw [b7]) (by omega) (by omega) a6, Or.inr (Or.inr ⟨Or.inr t73, t75, hh.tail, fun _ => by rw [tw]; intro q; cases q⟩)⟩, mr⟩
  · refine ⟨by rw [b1, b2]; exact a1.1, fun i x hi e => by rw [ok']; exact a1.2.1 i x hi (by rw [← b7]; exact e), by rw [b7]; exact a1.2.2.1, fun i x hi e => by rw [ok']; exact a1.2.2.2.1 i x hi (by rw [← b7]; exact e), by rw [b7]; exact a1.2.2.2.2.1, fun i x hi e => by rw [ok', ok', ok']; exact a1.2.2.2.2.2.1 i x hi (by rw [← b7]; exact e), by rw [b7]; exact a1.2.2.2.2.2.2.1, by unfold inP; rw [b6, b7]; exact a1.2.2.2.2.2.2.2.1, fun b' q => ?_⟩
    rw [tw] at q
    cases q
    unfold inP; rw [b7]; exact hb
  · unfold ROOM at *; rw [b1, b7]; exact a2
  · unfold dpI at *; rw [ti 67 (by decide) (by decide) (by decide)]; exact a5.1
end
section
/-! the class's machine: one instruction -/
theorem q_ent {N H : Nat} {X : CS} {D : Nat → List Nat} {k n : Int} {c : List Nat} {ph : Nat} {x1 y : Int32} (hk : 0 ≤ k) (h : MST H X D k c) (e66 : (X.i 66).toInt = n) (hx : x1.toInt = (ph : Int)) (hp : ph = 0 ∨ ph = 1 ∧ HND X D y c) (v : VN X D n (ph :: c)) : ok (f_X3_enter N X x1 y) (fun R => ∀ T : CS, PQ R.2 T → MI H T D (k + 1) ∧ MR X T) := by
  obtain ⟨a1, a2, a3, a4, a5, a6, a7, a8⟩ := h
  refine ok_imp (q_enter a1 a2 a5.1 a5.2 a6 a7 a4 hx hp) (fun R hR T hT => ?_)
  obtain ⟨r1, r2, r3, r4, r5, r6, r7, r8⟩ := hR
  have ceq := r3.ceq.tr hT.1.ceq
  refine ⟨⟨hT.1.refs r1, hT.1.room r2, ceq.wt a3, by rw [hT.1.2.1 68 (by omega), r4 68 (by decide)]; omega, ph :: c, ?_, by show c.length + 1 ≤ 22; omega, hT.1.frm (by omega) r7, Or.inl ⟨by rw [hT.1.2.1 73 (by omega), r4 73 (by decide)]; exact a8, hT.1.hld r8, ?_⟩⟩, r3.tr hT.1.mr⟩
  · show ((c.length + 1 : Nat) : Int) = (T.i 67).toInt
    rw [hT.1.2.1 67 (by omega)]
    have : (R.2.i 67).toInt = dpI X + 1 := r6
    omega
  · have v' : VN T D n (ph :: c) := by rw [ceq.vn]; exact v
    exact v'.on (by omega) (by rw [hT.2, r4 66 (by decide)]; exact e66)
theorem q_act {N : Nat} (hN : 10000000000 ≤ N) {H : Nat} {X : CS} {D : Nat → List Nat} {k n : Int} {c : List Nat} {x y : Int32} (hk : 0 ≤ k) (k4 : k ≤ 4000000) (h : MST H X D k c) (e66 : (X.i 66).toInt = n) (v1 : x = 51 ∨ x = 52 ∨ x = 55 → VN X D n c) (v2 : x = 53 → VN X D n (0 :: c)) (v3 : x = 54 → VN X D n (1 :: c) ∧ HND X D y c) (v4 : ¬ (x = 51 ∨ x = 52 ∨ x = 53 ∨ x = 54 ∨ x = 55) → True) : ok (f_X3_act N X x y) (fun R => (MI H R.2 D (k + 1) ∨ ¬ R.2.i 72 = -1) ∧ MR X R.2 ∧ REFS R.2 ∧ ROOM H R.2) := by
  obtain ⟨a1, a2, a3, a4, a5, a6, a7, a8⟩ := (show MST H X D k c from h)
  have pack : ∀ {R : CS}, MI H R D (k + 1) ∧ MR X R → (MI H R D (k + 1) ∨ ¬ R.i 72 = -1) ∧ MR X R ∧ REFS R ∧ ROOM H R := fun {R} q => ⟨Or.inl q.1, q.2, q.1.1, q.1.2.1⟩
  have pq : ∀ {R : CS}, PQ X R → VN X D n c → MI H R D (k + 1) ∧ MR X R := fun {R} q v => by
    have v' : VN R D n c := by rw [q.1.ceq.vn]; exact v
    exact ⟨(h.pv q.1).on hk v' (by rw [q.2]; exact e66), q.1.mr⟩
  unfold f_X3_act f_X3_step
  refine ok_ite (fun c1 => ?_) (fun c1 => ok_ite (fun c2 => ?_) (fun c2 => ok_ite (fun c3 => ?_) (fun c3 => ok_ite (fun c4 => ?_) (fun c4 => ok_ite (fun c5 => ?_) (fun c5 => ?_)))))
  · refine ok_bind (Q := fun R => PQ X R.2) (ok_ite (fun _ => ok_some ⟨(PV.rf X).i 70 _ (by decide), ci_ne _ _ _ (by decide)⟩) (fun _ => ok_some ⟨(PV.rf X).i 72 _ (by decide), ci_ne _ _ _ (by decide)⟩)) (fun p hp => ok_some (pack (pq hp (v1 (Or.inl c1)))))
  · exact ok_bind (q_pop N X) (fun p hp => ok_bind (q_note N p.2 0 _) (fun q hq => ok_some (pack (pq (hp.tr hq) (v1 (Or.inr (Or.inl c2)))))))
  · refine ok_bind (q_ent hk h e66 (ph := 0) (by decide) (Or.inl rfl) (v2 c3)) (fun p hp => ?_)
    refine ok_bind (q_note N (CS.setI p.2 71 ((p.2.i 71) + 1)) 3 y) (fun q hq => ok_some (pack (hp q.2 ?_)))
    exact PQ.tr ⟨(PV.rf p.2).i 71 _ (by decide), ci_ne _ _ _ (by decide)⟩ hq
  · exact ok_bind (q_ent hk h e66 (ph := 1) (by decide) (Or.inr ⟨rfl, (v3 c4).2⟩) (v3 c4).1) (fun p hp => ok_some (pack (hp p.2 (PQ.rf p.2))))
  · have v := v1 (Or.inr (Or.inr c5))
    unfold f_X3_openOne
    refine ok_bind (Q := fun R => MI H R.2 D (k + 1) ∧ MR X R.2) (ok_ite (fun _ => ok_ite (fun _ => ?_) (fun _ => ok_some (pq (PQ.rf X) v))) (fun _ => ?_)) (fun p hp => ok_some (pack hp))
    · refine ok_bind (q_note N X 1 y) (fun p hp => ok_some ?_)
      have hY : PQ X (CS.putA p.2 63 (gPut (p.2.a 63) 320 (p.2.i 68) y)) := hp.tr ⟨(PV.rf p.2).a 63 _ (by decide), rfl⟩
      show MI H (CS.setI (CS.putA p.2 63 (gPut (p.2.a 63) 320 (p.2.i 68) y)) 68 (p.2.i 68 + 1)) D (k + 1) ∧ MR X (CS.setI (CS.putA p.2 63 (gPut (p.2.a 63) 320 (p.2.i 68) y)) 68 (p.2.i 68 + 1))
      have e68 : p.2.i 68 = X.i 68 := hp.1.2.1 68 (by omega)
      rw [e68]
      rw [e68] at hY
      generalize CS.putA p.2 63 (gPut (p.2.a 63) 320 (X.i 68) y) = Y at hY ⊢
      obtain ⟨T, hT⟩ : ∃ T, T = CS.setI Y 68 (X.i 68 + 1) := ⟨_, rfl⟩
      have ti : ∀ j : Nat, j ≠ 68 → T.i j = Y.i j := fun j q => by rw [hT, ci_ne _ _ _ q]
      have t68 : T.i 68 = X.i 68 + 1 := by rw [hT, ci_at]
      have base : T.hs = Y.hs ∧ T.L = Y.L ∧ T.k = Y.k ∧ T.o = Y.o ∧ T.ol = Y.ol ∧ T.ot = Y.ot ∧ T.r = Y.r ∧ T.w = Y.w ∧ T.b = Y.b ∧ T.l = Y.l ∧ T.a = Y.a := by
        rw [hT, chs_setI, cL_setI, ck_setI, co_setI, col_setI, cot_setI, cr_setI, cw_setI, cb_setI, cl_setI, ca_setI]
        exact ⟨rfl, rfl, rfl, rfl, rfl, rfl, rfl, rfl, rfl, rfl, rfl⟩
      rw [← hT]
      clear hT
      obtain ⟨b1, b2, b3, b4, b5, b6, b7, b8, b9, b10, b11⟩ := base
      have ok' : ∀ {x t : Nat}, oK T x t = oK Y x t := fun {x t} => by unfold oK; rw [b2, b3]
      have mr : MR Y T := ⟨fun j hj => ti j (by omega), fun _ _ => by rw [b11], b9, b10, by rw [b7], fun x hx => ⟨by rw [ok']; exact hx, by rw [b4], by rw [b5]⟩⟩
      have fk : FK Y T := fun x hx => ⟨by rw [ok']; exact hx, by rw [b4], by rw [b6]⟩
      have hS := h.pv hY.1
      have e1 : (1 : Int32).toInt = 1 := by decide
      have es : (X.i 68 + 1).toInt = (X.i 68).toInt + 1 := by rw [toInt_add] <;> rw [e1] <;> omega
      have v' : VN T D n c := by rw [mr.ceq.vn, hY.1.ceq.vn]; exact v
      refine ⟨⟨?_, ?_, mr.ceq.wt hS.2.2.1, by rw [t68, es]; omega, c, ?_, by omega, fk.frm hS.1 mr.ceq (by rw [b7]) (by omega) (by omega) hS.2.2.2.2.2.1, Or.inl ⟨(ti 73 (by decide)).trans hS.2.2.2.2.2.2.2, fk.hld hS.1 (by rw [b7]) (by omega) hS.2.2.2.2.2.2.1, v'.on (by omega) (by rw [ti 66 (by decide), hY.2]; exact e66)⟩⟩, hY.1.mr.tr mr⟩
      · have := hS.1
        unfold REFS inP oK at *; rw [b1, b2, b3, b6, b7, b8]; exact this
      · have := hS.2.1
        unfold ROOM at *; rw [b1, b7]; exact this
      · have := hS.2.2.2.2.1.1
        unfold dpI at *; rw [ti 67 (by decide)]; exact this
    · exact ok_bind (q_raise (by omega) a1 a2 (by omega) (by omega) _ _) (fun p hp => ok_some ⟨h.rs hp, hp.2.2.1⟩)
  · have pv : PV X (CS.setI X 72 0) := (PV.rf X).i 72 0 (by decide)
    refine ok_some ⟨Or.inr ?_, pv.mr, pv.refs a1, pv.room a2⟩
    show ¬ (CS.setI X 72 0).i 72 = -1
    rw [ci_at]
    decide
theorem HLD.at2 {s : CS} {c : List Nat} {x : Int32} (h : HLD s c) (ha : AT2 c x) : ∃ i a b : Nat, x.toInt = (i : Int) ∧ i < c.length ∧ s.r 61 i = some a ∧ s.ot a = some b := by
  obtain ⟨i, i1, i2, r, q, e, l⟩ := ha
  have key : ∀ r : List Nat, HLD s (r ++ 2 :: q) → HLD s (2 :: q) := fun r => by
    induction r with
    | nil => exact id
    | cons p r ih => exact fun z => ih z.2
  rw [e] at h
  obtain ⟨a, b, z1, z2⟩ := (key r h).1 rfl
  exact ⟨i, a, b, i1, i2, by rw [← l]; exact z1, z2⟩
theorem q_again {N H : Nat} {X : CS} {D : Nat → List Nat} {k : Int} {c : List Nat} {a b : Nat} (h : MST H X D k c) (ha : oK X a 1) (hb : X.ot a = some b) (hp : inP X b) : ok (f_X3_throwAgain N X (some a)) (fun R => MI H R.2 D (k + 1) ∧ MR X R.2) := by
  unfold f_X3_throwAgain
  show ok (if oK X a 1 then oCase (CS.ot X a) _ _ else none) _
  rw [if_pos ha, hb]
  exact ok_some (h.again b hp)
theorem q_turn {N : Nat} (hN : 10000000000 ≤ N) {H : Nat} {X : CS} {D : Nat → List Nat} {k n : Int} {c : List Nat} {x y : Int32} (hk : 0 ≤ k) (h : MST H X D k c) (e66 : (X.i 66).toInt = n) (hx : 56 ≤ x.toInt ∧ x.toInt ≤ 64) (v1 : x = 57 → VN X D n c) (v2 : x = 56 → VT X D (y / 16) c ∧ VN X D n c) (v3 : x = 58 → ∃ r, c = 2 :: r) (v4 : x = 59 → ∃ r, c = 3 :: r) (v5 : x = 60 ∨ x = 61 → LVT X D y c) (v6 : x = 64 → AT2 c y) : ok (f_X3_turn N X x y) (fun R => MI H R.2 D (k + 1) ∧ MR X R.2) := by
  obtain ⟨a1, a2, a3, a4, a5, a6, a7, a8⟩ := (show MST H X D k c from h)
  have pq : ∀ {R : CS}, PQ X R → VN X D n c → MI H R D (k + 1) ∧ MR X R := fun {R} q v => by
    have v' : VN R D n c := by rw [q.1.ceq.vn]; exact v
    exact ⟨(h.pv q.1).on hk v' (by rw [q.2]; exact e66), q.1.mr⟩
  have go : ∀ (Y : CS) (w v t : Int32), PQ X Y → ((w = 1 ∨ w = 2) ∧ LVT X D t c ∨ w = 3 ∧ t = 0) → ok ((f_X3_go N Y w v t).bind fun p => some ((), p.2)) (fun R => MI H R.2 D (k + 1) ∧ MR X R.2) := fun Y w v t hY hw => by
    have q := (h.pv hY.1).go w v t (by rw [hY.1.ceq.lv]; exact hw)
    exact ok_some ⟨q.1, hY.1.mr.tr q.2⟩
  have topq := q_top (N := N) a5.1 (by omega) a6
  unfold f_X3_turn
  refine ok_ite (fun c9 => ?_) (fun c9 => ok_ite (fun c60 => ?_) (fun c60 => ok_ite (fun c61 => ?_) (fun c61 => ok_ite (fun c62 => ?_) (fun c62 => ok_ite (fun c63 => ?_) (fun c63 => ok_ite (fun c64 => ?_) (fun c64 => ?_))))))
  · obtain ⟨r0, er⟩ := v4 c9
    rcases topq with ⟨e1, e2⟩ | ⟨ph, a, r, e1, e2, e3, e4, e5, e6, e7⟩
    · rw [e1] at er; cases er
    rw [e1] at er
    injection er with er1 er2
    subst er2
    rw [e2]
    show ok ((f_X3_resume N X (some a)).bind fun p12 => some ((), p12.2)) _
    unfold f_X3_resume
    show ok (((if oK X a 1 then oCase (CS.ot (CS.setI X 67 ((X.i 67) - 1)) a) ((f_X3_go N (CS.setW (CS.setI X 67 ((X.i 67) - 1)) none) (CS.o (CS.setW (CS.setI X 67 ((X.i 67) - 1)) none) a 5) (CS.o (CS.setW (CS.setI X 67 ((X.i 67) - 1)) none) a 6) (CS.o (CS.setW (CS.setI X 67 ((X.i 67) - 1)) none) a 7)).bind fun p6 => some ((), p6.2)) (fun a5 => (f_X3_go N (CS.setW (CS.setI X 67 ((X.i 67) - 1)) (some a5)) (CS.o (CS.setW (CS.setI X 67 ((X.i 67) - 1)) (some a5)) a 5) (CS.o (CS.setW (CS.setI X 67 ((X.i 67) - 1)) (some a5)) a 6) (CS.o (CS.setW (CS.setI X 67 ((X.i 67) - 1)) (some a5)) a 7)).bind fun p10 => some ((), p10.2)) else none) : Option (Unit × CS)).bind fun p12 => some ((), p12.2)) _
    rw [if_pos e4]
    have key : ∀ v : Option Nat, v = X.ot a → MI H (CS.setI (CS.setI (CS.setI (CS.setW (CS.setI X 67 ((X.i 67) - 1)) v) 73 (X.o a 5)) 74 (X.o a 6)) 75 (X.o a 7)) D (k + 1) ∧ MR X (CS.setI (CS.setI (CS.setI (CS.setW (CS.setI X 67 ((X.i 67) - 1)) v) 73 (X.o a 5)) 74 (X.o a 6)) 75 (X.o a 7)) := fun v hv => by
      obtain ⟨T, hT⟩ : ∃ T, T = CS.setI (CS.setI (CS.setI (CS.setW (CS.setI X 67 ((X.i 67) - 1)) v) 73 (X.o a 5)) 74 (X.o a 6)) 75 (X.o a 7) := ⟨_, rfl⟩
      have ti : ∀ j : Nat, j ≠ 67 → j ≠ 73 → j ≠ 74 → j ≠ 75 → T.i j = X.i j := fun j q0 q1 q2 q3 => by rw [hT, ci_ne _ _ _ q3, ci_ne _ _ _ q2, ci_ne _ _ _ q1, ci_setW, ci_ne _ _ _ q0]
      have t67 : T.i 67 = X.i 67 - 1 := by rw [hT, ci_ne _ _ _ (by decide), ci_ne _ _ _ (by decide), ci_ne _ _ _ (by decide), ci_setW, ci_at]
      have t73 : T.i 73 = X.o a 5 := by rw [hT, ci_ne _ _ _ (by decide), ci_ne _ _ _ (by decide), ci_at]
      have t75 : T.i 75 = X.o a 7 := by rw [hT, ci_at]
      have tw : T.w = X.ot a := by rw [hT, cw_setI, cw_setI, cw_setI, cw_at, hv]
      have base : T.hs = X.hs ∧ T.L = X.L ∧ T.k = X.k ∧ T.o = X.o ∧ T.ol = X.ol ∧ T.ot = X.ot ∧ T.r = X.r ∧ T.b = X.b ∧ T.l = X.l ∧ T.a = X.a := by
        rw [hT, chs_setI, chs_setI, chs_setI, chs_setW, chs_setI, cL_setI, cL_setI, cL_setI, cL_setW, cL_setI, ck_setI, ck_setI, ck_setI, ck_setW, ck_setI, co_setI, co_setI, co_setI, co_setW, co_setI, col_setI, col_setI, col_setI, col_setW, col_setI, cot_setI, cot_setI, cot_setI, cot_setW, cot_setI, cr_setI, cr_setI, cr_setI, cr_setW, cr_setI, cb_setI, cb_setI, cb_setI, cb_setW, cb_setI, cl_setI, cl_setI, cl_setI, cl_setW, cl_setI, ca_setI, ca_setI, ca_setI, ca_setW, ca_setI]
        exact ⟨rfl, rfl, rfl, rfl, rfl, rfl, rfl, rfl, rfl, rfl⟩
      rw [← hT]
      clear hT
      obtain ⟨b1, b2, b3, b4, b5, b6, b7, b9, b10, b11⟩ := base
      have ok' : ∀ {x t : Nat}, oK T x t = oK X x t := fun {x t} => by unfold oK; rw [b2, b3]
      have mr : MR X T := ⟨fun j hj => ti j (by omega) (by omega) (by omega) (by omega), fun _ _ => by rw [b11], b9, b10, by rw [b7], fun x hx => ⟨by rw [ok']; exact hx, by rw [b4], by rw [b5]⟩⟩
      have fk : FK X T := fun x hx => ⟨by rw [ok']; exact hx, by rw [b4], by rw [b6]⟩
      rw [e1] at a5 a7
      have l21 : r.length + 1 ≤ 21 := a5.2
      have l1 : ((r.length + 1 : Nat) : Int) = dpI X := a5.1
      have hh : HLD T r := fk.hld a1 (by rw [b7]) (by omega) a7.2
      have e1' : (1 : Int32).toInt = 1 := by decide
      have hl2 : (X.i 67).toInt = (r.length : Int) + 1 := by have : dpI X = (X.i 67).toInt := rfl; omega
      obtain ⟨s1, s2, s3, s4⟩ := e6.2.2 er1
      refine ⟨⟨?_, ?_, mr.ceq.wt a3, by rw [ti 68 (by decide) (by decide) (by decide) (by decide)]; omega, r, ?_, by omega, fk.frm a1 mr.ceq (by rw [b7]) (by omega) (by omega) e7, ?_⟩, mr⟩
      · refine ⟨by rw [b1, b2]; exact a1.1, fun i x hi e => by rw [ok']; exact a1.2.1 i x hi (by rw [← b7]; exact e), by rw [b7]; exact a1.2.2.1, fun i x hi e => by rw [ok']; exact a1.2.2.2.1 i x hi (by rw [← b7]; exact e), by rw [b7]; exact a1.2.2.2.2.1, fun i x hi e => by rw [ok', ok', ok']; exact a1.2.2.2.2.2.1 i x hi (by rw [← b7]; exact e), by rw [b7]; exact a1.2.2.2.2.2.2.1, by unfold inP; rw [b6, b7]; exact a1.2.2.2.2.2.2.2.1, fun b' q => ?_⟩
        rw [tw] at q
        unfold inP; rw [b7]; exact a1.2.2.2.2.2.2.2.1 r.length a b' (by omega) e3 q
      · unfold ROOM at *; rw [b1, b7]; exact a2
      · show (r.length : Int) = (T.i 67).toInt
        rw [t67, toInt_sub] <;> rw [e1'] <;> omega
      · rcases s1 with q | q | q | q
        · exact Or.inr (Or.inl ⟨Or.inl (t73.trans q), by rw [mr.ceq.lv, t75]; exact s2 (Or.inl q), hh.tail, Or.inl hh⟩)
        · exact Or.inr (Or.inl ⟨Or.inr (t73.trans q), by rw [mr.ceq.lv, t75]; exact s2 (Or.inr q), hh.tail, Or.inl hh⟩)
        · exact Or.inr (Or.inr ⟨Or.inl (t73.trans q), t75.trans (s3 (Or.inl q)), hh.tail, fun z => by rw [t73, q] at z; exact absurd z (by decide)⟩)
        · exact Or.inr (Or.inr ⟨Or.inr (t73.trans q), t75.trans (s3 (Or.inr q)), hh.tail, fun _ => by rw [tw]; exact s4 q⟩)
    cases ho : X.ot a with
    | none =>
      rw [cot_setI, ho]
      exact ok_some (key none ho.symm)
    | some b =>
      rw [cot_setI, ho]
      exact ok_some (key (some b) ho.symm)
  · exact go X 1 0 y (PQ.rf X) (Or.inl ⟨Or.inl rfl, v5 (Or.inl c60)⟩)
  · exact ok_bind (q_pop N X) (fun p hp => go p.2 2 p.1 y hp (Or.inl ⟨Or.inr rfl, v5 (Or.inr c61)⟩))
  · exact ok_bind (q_pop N X) (fun p hp => go p.2 3 p.1 0 hp (Or.inr ⟨rfl, rfl⟩))
  · refine ok_bind (q_pop N X) (fun p hp => ?_)
    have hS := h.pv hp.1
    have hl := hS.2.2.2.2.1
    exact ok_bind (q_raise (by omega) hS.1 hS.2.1 (by omega) (by omega) _ _) (fun q hq => ok_some ⟨hS.rs hq, hp.1.mr.tr hq.2.2.1⟩)
  · obtain ⟨i, a, b, i1, i2, i3, i4⟩ := a7.at2 (v6 c64)
    have dp : (X.i 67).toInt = (c.length : Int) := a5.1.symm
    have e24 : (24 : Int32).toInt = 24 := by decide
    have f : f_X3_frame N X y = some (some a, X) := by
      unfold f_X3_frame
      have cn : y.toNatClampNeg = i := by
        have := clampI (k := y) (by omega)
        omega
      rw [if_neg (fun q => by have := lt_int q; rw [z_t0] at this; omega), if_neg (fun q => by have := le_int q; omega), if_neg (fun q => by have := le_int q; omega), if_pos (show ib y 24 from ⟨by omega, by omega⟩), cn, i3]
      rfl
    rw [f]
    show ok ((f_X3_throwAgain N X (some a)).bind fun p59 => some ((), p59.2)) _
    exact ok_bind (q_again h (a1.2.2.2.1 i a (by omega) i3) i4 (a1.2.2.2.2.2.2.2.1 i a b (by omega) i3 i4)) (fun p hp => ok_some hp)
  · have t56 : (56 : Int32).toInt = 56 := by decide
    have t57 : (57 : Int32).toInt = 57 := by decide
    have t58 : (58 : Int32).toInt = 58 := by decide
    have t59 : (59 : Int32).toInt = 59 := by decide
    have t60 : (60 : Int32).toInt = 60 := by decide
    have t61 : (61 : Int32).toInt = 61 := by decide
    have t62 : (62 : Int32).toInt = 62 := by decide
    have t63 : (63 : Int32).toInt = 63 := by decide
    have t64 : (64 : Int32).toInt = 64 := by decide
    have ne : ∀ {z : Int32}, ¬ x = z → ¬ x.toInt = z.toInt := fun {z} q e => q (Int32.toInt_inj.mp e)
    have n1 := ne c9
    have n2 := ne c60
    have n3 := ne c61
    have n4 := ne c62
    have n5 := ne c63
    have n6 := ne c64
    rw [t59] at n1
    rw [t60] at n2
    rw [t61] at n3
    rw [t62] at n4
    rw [t63] at n5
    rw [t64] at n6
    have hc : x = 56 ∨ x = 57 ∨ x = 58 := by
      by_cases q1 : x.toInt = 56
      · exact Or.inl (Int32.toInt_inj.mp (by rw [t56]; exact q1))
      by_cases q2 : x.toInt = 57
      · exact Or.inr (Or.inl (Int32.toInt_inj.mp (by rw [t57]; exact q2)))
      · exact Or.inr (Or.inr (Int32.toInt_inj.mp (by rw [t58]; omega)))
    have stay : ¬ x = 58 → MI H X D (k + 1) ∧ MR X X := fun q => by
      rcases hc with z | z | z
      · exact pq (PQ.rf X) (v2 z).2
      · exact pq (PQ.rf X) (v1 z)
      · exact absurd z q
    rcases topq with ⟨e1, e2⟩ | ⟨ph, a, r, e1, e2, e3, e4, e5, e6, e7⟩
    · rw [e2]
      show ok ((f_X3_handle N X x y none).bind fun p69 => some ((), p69.2)) _
      unfold f_X3_handle
      refine ok_some (stay (fun q => ?_))
      obtain ⟨r0, er⟩ := v3 q
      rw [e1] at er; cases er
    rw [e2]
    show ok ((f_X3_handle N X x y (some a)).bind fun p73 => some ((), p73.2)) _
    refine ok_bind (Q := fun R => MI H R.2 D (k + 1) ∧ MR X R.2) ?_ (fun p hp => ok_some hp)
    unfold f_X3_handle
    show ok (if oK X a 1 then oCase (CS.ot X a) (some ((), X)) (fun a5 => (if x = 58 then (f_X3_throwAgain N X (some a)).bind fun p22 => some ((), p22.2) else (if x = 57 then oCase (CS.ot X a) (none) (fun a20 => if oK X a20 2 then some ((), CS.putA X 59 (gPut (X.a 59) 720 y (CS.o X a20 3))) else none) else oCase (CS.ot X a) (none) (fun a9 => if oK X a9 2 then (f_X10_isUnder N X (CS.o X a9 2) (y - y / 16 * 16)).bind fun p11 => (f_X3_goIf N p11.2 p11.1 (y / 16)).bind fun p15 => some ((), p15.2) else none)))) else none) _
    rw [if_pos e4]
    have r24 : r.length < 24 := by
      have := a5.2
      rw [e1] at this
      have : r.length + 1 ≤ 21 := this
      omega
    cases ho : X.ot a with
    | none =>
      refine ok_some (stay (fun q => ?_))
      obtain ⟨r0, er⟩ := v3 q
      rw [e1] at er
      injection er with er1 er2
      rw [e1] at a7
      obtain ⟨a', b', z1, z2⟩ := a7.1 er1
      rw [e3] at z1
      cases z1
      rw [ho] at z2
      cases z2
    | some b =>
      have hb := a1.2.2.2.2.2.2.2.1 r.length a b r24 e3 ho
      obtain ⟨j, j1, j2⟩ := hb
      have okb := (a1.2.2.2.2.2.1 j b j1 j2).1
      show ok (if x = 58 then (f_X3_throwAgain N X (some a)).bind fun p22 => some ((), p22.2) else (if x = 57 then (if oK X b 2 then some ((), CS.putA X 59 (gPut (X.a 59) 720 y (CS.o X b 3))) else none) else (if oK X b 2 then (f_X10_isUnder N X (CS.o X b 2) (y - y / 16 * 16)).bind fun p11 => (f_X3_goIf N p11.2 p11.1 (y / 16)).bind fun p15 => some ((), p15.2) else none))) _
      refine ok_ite (fun _ => ok_bind (q_again h e4 ho ⟨j, j1, j2⟩) (fun p hp => ok_some hp)) (fun c58 => ok_ite (fun c57 => ?_) (fun c57 => ?_))
      · rw [if_pos okb]
        exact ok_some (pq ⟨(PV.rf X).a 59 _ (by decide), rfl⟩ (v1 c57))
      · rw [if_pos okb]
        have c56 : x = 56 := by
          rcases hc with z | z | z
          · exact z
          · exact absurd z c57
          · exact absurd z c58
        obtain ⟨g1, g2⟩ := v2 c56
        refine ok_bind (q_isUnder (by omega)) (fun p hp => ?_)
        rw [hp.1]
        refine ok_bind (q_goIf (PQ.rf X)) (fun q hq => ok_some ?_)
        rcases hq.2 with z | z
        · exact pq ⟨hq.1, z⟩ g2
        · have v' : VT q.2 D (y / 16) c := by rw [hq.1.ceq.vt]; exact g1
          refine ⟨(h.pv hq.1).on (n := (tg q.2 (y / 16)).toInt) hk v' ?_, hq.1.mr⟩
          rw [z]
          unfold tg
          rw [hq.1.2.2 17 (by omega)]
end
section
/-! the class's machine: a run -/
theorem q_instr {N : Nat} (hN : 10000000000 ≤ N) {H : Nat} {s : CS} {D : Nat → List Nat} {k : Int} (hk : 0 ≤ k) (k4 : k ≤ 4000000) (h : MI H s D k) (h0 : s.i 73 = 0) : ok (f_X3_instruction N s) (fun R => (MI H R.2 D (k + 1) ∨ ¬ R.2.i 72 = -1) ∧ MR s R.2 ∧ REFS R.2 ∧ ROOM H R.2) := by
  obtain ⟨a1, a2, a3, a4, c, b1, b2, b3, b4⟩ := (show MI H s D k from h)
  obtain ⟨m1, m2, m3⟩ : s.i 73 = 0 ∧ HLD s c ∧ ONP s D k c := by
    rcases b4 with z | z | z
    · exact z
    · rcases z.1 with q | q <;> rw [h0] at q <;> exact absurd q (by decide)
    · rcases z.1 with q | q <;> rw [h0] at q <;> exact absurd q (by decide)
  obtain ⟨p0, p1, p2⟩ := m3
  have e1 : (1 : Int32).toInt = 1 := by decide
  have es : (s.i 66 + 1).toInt = (s.i 66).toInt + 1 := by rw [toInt_add] <;> rw [e1] <;> omega
  have pvS : PV s (CS.setI s 66 (s.i 66 + 1)) := (PV.rf s).i 66 _ (by decide)
  have S66 : ((CS.setI s 66 (s.i 66 + 1)).i 66).toInt = (s.i 66).toInt + 1 := by rw [ci_at, es]
  have pack : ∀ {R : CS}, MI H R D (k + 1) ∧ MR s R → (MI H R D (k + 1) ∨ ¬ R.i 72 = -1) ∧ MR s R ∧ REFS R ∧ ROOM H R := fun {R} q => ⟨Or.inl q.1, q.2, q.1.1, q.1.2.1⟩
  unfold f_X3_instruction
  by_cases cp : (s.i 66).toInt < 1200
  case neg =>
    have g0 : ∀ f : Nat → Int32, gAt f 1200 (s.i 66) = 0 := fun f => if_neg (fun q => cp (by have := q.2; omega))
    rw [g0, g0]
    have l7 : ¬ (7 : Int32) ≤ 0 := by decide
    rw [if_neg l7]
    refine ok_bind (q_move N _ 0 0) (fun p hp => ok_some (pack ⟨?_, pvS.mr.tr hp.1.mr⟩))
    have pv := pvS.tr hp.1
    refine ⟨pv.refs a1, pv.room a2, pv.ceq.wt a3, by rw [pv.2.1 68 (by omega)]; omega, c, ?_, b2, pv.frm (by omega) b3, Or.inl ⟨(pv.2.1 73 (by omega)).trans h0, pv.hld m2, ?_⟩⟩
    · unfold dpI at *; rw [pv.2.1 67 (by omega)]; exact b1
    · have e : (p.2.i 66).toInt = (s.i 66).toInt + 1 := by rw [hp.2]; exact S66
      unfold ONP
      rw [e]
      exact ⟨by omega, by omega, Or.inl (by omega)⟩
  obtain ⟨q1, q2⟩ := p2.resolve_left (by omega)
  obtain ⟨P, hP⟩ : ∃ P, P = (s.i 66).toInt.toNat := ⟨_, rfl⟩
  have hP' : (P : Int) = (s.i 66).toInt := by rw [hP]; exact Int.toNat_of_nonneg p0
  rw [← hP] at q2
  have cn : (s.i 66).toNatClampNeg = P := by rw [hP]; rfl
  have g1 : ∀ f : Nat → Int32, gAt f 1200 (s.i 66) = f P := fun f => by
    unfold gAt
    rw [if_pos (show ib (s.i 66) 1200 from ⟨p0, by omega⟩), cn]
  rw [g1, g1]
  obtain ⟨hin, hlen⟩ := a3.2.2 P (by omega) (by omega)
  rw [q2] at hlen
  obtain ⟨i1, i2, i3, i4, i5, i6, i7, i8, i9, i10, i11, i12, i13⟩ := hin
  rw [q2] at i1 i2 i3 i4 i5 i6 i7 i8 i9 i10 i11 i12
  obtain ⟨n, hn⟩ : ∃ n, n = (P : Int) + 1 := ⟨_, rfl⟩
  rw [← hn] at i1 i3 i4 i5 i6 i7 i8
  have S66n : ((CS.setI s 66 (s.i 66 + 1)).i 66).toInt = n := by rw [S66, hn]; omega
  have hS0 : MST H s D k c := ⟨a1, a2, a3, a4, ⟨b1, hlen⟩, b3, m2, h0⟩
  have hS := hS0.pv pvS
  have ceq := pvS.ceq
  have mrS := pvS.mr
  generalize CS.setI s 66 (s.i 66 + 1) = X at *
  obtain ⟨o, ho⟩ : ∃ o, o = s.a 15 P := ⟨_, rfl⟩
  obtain ⟨y, hy⟩ : ∃ y, y = s.a 16 P := ⟨_, rfl⟩
  rw [← ho, ← hy]
  rw [← ho] at i1 i2 i3 i4 i5 i6 i7 i8 i9 i10 i11 i12 i13
  rw [← hy] at i2 i3 i7 i8 i11 i12
  clear ho hy
  rw [← ceq.vn] at i1 i3 i4 i5 i6 i7 i8
  rw [← ceq.vt] at i2 i3 i8
  rw [← ceq.hn] at i7
  rw [← ceq.lv] at i11
  have t7 : (7 : Int32).toInt = 7 := by decide
  have t30 : (30 : Int32).toInt = 30 := by decide
  have t50 : (50 : Int32).toInt = 50 := by decide
  have t56 : (56 : Int32).toInt = 56 := by decide
  have le : ∀ {z : Int32}, z ≤ o → z.toInt ≤ o.toInt := fun q => le_int q
  have lt : ∀ {z : Int32}, ¬ z ≤ o → o.toInt < z.toInt := fun q => lt_int (Int32.not_le.mp q)
  have eqI : ∀ {z : Int32}, o = z → o.toInt = z.toInt := fun q => by rw [q]
  have t51 : (51 : Int32).toInt = 51 := by decide
  have t52 : (52 : Int32).toInt = 52 := by decide
  have t53 : (53 : Int32).toInt = 53 := by decide
  have t54 : (54 : Int32).toInt = 54 := by decide
  have t55 : (55 : Int32).toInt = 55 := by decide
  have t57 : (57 : Int32).toInt = 57 := by decide
  have t58 : (58 : Int32).toInt = 58 := by decide
  have t59 : (59 : Int32).toInt = 59 := by decide
  have t60 : (60 : Int32).toInt = 60 := by decide
  have t61 : (61 : Int32).toInt = 61 := by decide
  have t64 : (64 : Int32).toInt = 64 := by decide
  have pq : ∀ {R : CS}, PQ X R → VN X D n c → MI H R D (k + 1) ∧ MR s R := fun {R} q v => by
    have v' : VN R D n c := by rw [q.1.ceq.vn]; exact v
    exact ⟨(hS.pv q.1).on hk v' (by rw [q.2]; exact S66n), mrS.tr q.1.mr⟩
  refine ok_ite (fun c7 => ok_ite (fun c30 => ok_ite (fun c50 => ok_ite (fun c56 => ?_) (fun c56 => ?_)) (fun c50 => ?_)) (fun c30 => ?_)) (fun c7 => ?_)
  · have l := le c56
    rw [t56] at l
    refine ok_bind (q_turn hN hk hS S66n ⟨l, i13⟩ (fun q => i5 (Or.inr (Or.inr (Or.inr (by rw [eqI q, t57]))))) (fun q => i8 (by rw [eqI q, t56])) (fun q => i9 (by rw [eqI q, t58])) (fun q => i10 (by rw [eqI q, t59])) (fun q => i11 ?_) (fun q => i12 (by rw [eqI q, t64]))) (fun p hp => ok_some (pack ⟨hp.1, mrS.tr hp.2⟩))
    rcases q with q | q
    · exact Or.inl (by rw [eqI q, t60])
    · exact Or.inr (by rw [eqI q, t61])
  · refine ok_bind (q_act hN hk k4 hS S66n (fun q => i5 ?_) (fun q => i6 (by rw [eqI q, t53])) (fun q => i7 (by rw [eqI q, t54])) (fun _ => True.intro)) (fun p hp => ok_some ⟨hp.1, mrS.tr hp.2.1, hp.2.2⟩)
    rcases q with q | q | q
    · exact Or.inl (by rw [eqI q, t51])
    · exact Or.inr (Or.inl (by rw [eqI q, t52]))
    · exact Or.inr (Or.inr (Or.inl (by rw [eqI q, t55])))
  · have l1 := le c30
    have l2 := lt c50
    rw [t30] at l1
    rw [t50] at l2
    refine ok_bind (q_steer hN) (fun p hp => ok_some (pack ?_))
    obtain ⟨pv, z⟩ := hp
    rcases z with ⟨z1, z2⟩ | ⟨z1, z2⟩
    · refine pq ⟨pv, z1⟩ ?_
      have n30 : ¬ o.toInt = 30 := fun q => z2 (Int32.toInt_inj.mp (by rw [t30]; exact q))
      by_cases c35 : o.toInt ≤ 35
      · exact (i3 (by omega) c35).2
      · exact i4 (by omega) l2
    · have v : VT X D y c := by
        by_cases q : o.toInt = 30
        · exact i2 q
        · exact (i3 (by omega) z2).1
      have v' : VT p.2 D y c := by rw [pv.ceq.vt]; exact v
      refine ⟨(hS.pv pv).on (n := (tg p.2 y).toInt) hk v' ?_, mrS.tr pv.mr⟩
      rw [z1]
      unfold tg
      rw [pv.2.2 17 (by omega)]
  · have l2 := lt c30
    rw [t30] at l2
    have hl := hS.2.2.2.2.1
    refine ok_bind (q_combine (by omega) hS.1 hS.2.1 (by omega) (by omega) o) (fun p hp => ok_some (pack ?_))
    rcases hp with z | ⟨Y, z1, z2⟩
    · exact pq z (i1 l2)
    · exact ⟨(hS.pv z1.1).rs z2, (mrS.tr z1.1.mr).tr z2.2.2.1⟩
  · have l2 := lt c7
    rw [t7] at l2
    exact ok_bind (q_move N X o y) (fun p hp => ok_some (pack (pq hp (i1 (by omega)))))
theorem q_ticks {N : Nat} (hN : 10000000000 ≤ N) {H : Nat} {s : CS} {D : Nat → List Nat} : ∀ (n : Nat) (σ : CS) (x3 : Int32), 0 ≤ x3.toInt → x3.toInt ≤ 4000000 → 4000000 - x3.toInt < n → (MI H σ D x3.toInt ∨ ¬ σ.i 72 = -1) → MR s σ → REFS σ → ROOM H σ → ok (f_X3_perform_110 N n σ x3) (fun R => REFS R.2 ∧ ROOM H R.2 ∧ MR s R.2)
  | 0, _, _, _, _, h, _, _, _, _ => by omega
  | n + 1, σ, x3, h0, h4, hn, hi, hm, hr, hro => by
    show ok (b_X3_perform_110 N (f_X3_perform_110 N n) σ x3) _
    unfold b_X3_perform_110 f_X3_perform_148
    have e4 : (4000000 : Int32).toInt = 4000000 := by decide
    have e1 : (1 : Int32).toInt = 1 := by decide
    refine ok_ite (fun _ => ok_some ⟨hr, hro, hm⟩) (fun c => ok_ite (fun c72 => ?_) (fun _ => ok_some ⟨hr, hro, hm⟩))
    have l : x3.toInt < 4000000 := by
      have := lt_int (Int32.not_le.mp c)
      rw [e4] at this; exact this
    have es : (x3 + 1).toInt = x3.toInt + 1 := by rw [toInt_add] <;> rw [e1] <;> omega
    have hM := hi.resolve_right (fun q => q c72)
    refine ok_ite (fun c73 => ?_) (fun c73 => ?_)
    · refine ok_bind (q_instr hN h0 h4 hM c73) (fun p hp => ?_)
      exact q_ticks hN n p.2 (x3 + 1) (by omega) (by omega) (by omega) (by rw [es]; exact hp.1) (hm.tr hp.2.1) hp.2.2.1 hp.2.2.2
    · refine ok_bind (q_leaveOne hN h0 hM c73) (fun p hp => ?_)
      exact q_ticks hN n p.2 (x3 + 1) (by omega) (by omega) (by omega) (by rw [es]; exact Or.inl hp.1) (hm.tr hp.2) hp.1.1 hp.1.2.1
theorem q_perf35 {N : Nat} (hN : 10000000000 ≤ N) {H : Nat} {s X : CS} {D : Nat → List Nat} (hX : PV s X) (hr : REFS s) (hm : ROOM H s) (hw : WTC s D) (x1 x2 : Int32) : ok (f_X3_perform_35 N X x1 x2) (fun R => REFS R.2 ∧ ROOM H R.2 ∧ MR s R.2) := by
  unfold f_X3_perform_35
  obtain ⟨A, hA⟩ : ∃ A, A = CS.putA (CS.putA X 59 (gPut (X.a 59) 720 0 x1)) 59 (gPut (CS.a (CS.putA X 59 (gPut (X.a 59) 720 0 x1)) 59) 720 1 x2) := ⟨_, rfl⟩
  have pA : PV s A := by rw [hA]; exact hX.tr (((PV.rf X).a 59 _ (by decide)).a 59 _ (by decide))
  rw [← hA]
  clear hA
  obtain ⟨B, hB⟩ : ∃ B, B = CS.setI (CS.setI (CS.setI A 65 0) 66 0) 69 0 := ⟨_, rfl⟩
  obtain ⟨T, hT⟩ : ∃ T, T = CS.setI (CS.setW (CS.setI (CS.setI (CS.setI (CS.setI (CS.setI (CS.setI (CS.setI (CS.setI (CS.setI A 65 0) 66 0) 67 0) 68 0) 69 0) 70 0) 71 0) 73 0) 74 0) none) 72 (-1) := ⟨_, rfl⟩
  have ti : ∀ j : Nat, j < 65 ∨ j = 75 → T.i j = A.i j := fun j q => by rw [hT, ci_ne _ _ _ (by omega), ci_setW, ci_ne _ _ _ (by omega), ci_ne _ _ _ (by omega), ci_ne _ _ _ (by omega), ci_ne _ _ _ (by omega), ci_ne _ _ _ (by omega), ci_ne _ _ _ (by omega), ci_ne _ _ _ (by omega), ci_ne _ _ _ (by omega), ci_ne _ _ _ (by omega)]
  have t66 : T.i 66 = 0 := by rw [hT, ci_ne _ _ _ (by decide), ci_setW, ci_ne _ _ _ (by decide), ci_ne _ _ _ (by decide), ci_ne _ _ _ (by decide), ci_ne _ _ _ (by decide), ci_ne _ _ _ (by decide), ci_ne _ _ _ (by decide), ci_ne _ _ _ (by decide), ci_at]
  have t67 : T.i 67 = 0 := by rw [hT, ci_ne _ _ _ (by decide), ci_setW, ci_ne _ _ _ (by decide), ci_ne _ _ _ (by decide), ci_ne _ _ _ (by decide), ci_ne _ _ _ (by decide), ci_ne _ _ _ (by decide), ci_ne _ _ _ (by decide), ci_at]
  have t68 : T.i 68 = 0 := by rw [hT, ci_ne _ _ _ (by decide), ci_setW, ci_ne _ _ _ (by decide), ci_ne _ _ _ (by decide), ci_ne _ _ _ (by decide), ci_ne _ _ _ (by decide), ci_ne _ _ _ (by decide), ci_at]
  have t73 : T.i 73 = 0 := by rw [hT, ci_ne _ _ _ (by decide), ci_setW, ci_ne _ _ _ (by decide), ci_at]
  have tw : T.w = none := by rw [hT, cw_setI, cw_at]
  have base : T.hs = A.hs ∧ T.L = A.L ∧ T.k = A.k ∧ T.o = A.o ∧ T.ol = A.ol ∧ T.ot = A.ot ∧ T.r = A.r ∧ T.b = A.b ∧ T.l = A.l ∧ T.a = A.a := by
    rw [hT]
    refine ⟨?_, ?_, ?_, ?_, ?_, ?_, ?_, ?_, ?_, ?_⟩
    · rw [chs_setI, chs_setW, chs_setI, chs_setI, chs_setI, chs_setI, chs_setI, chs_setI, chs_setI, chs_setI, chs_setI]
    · rw [cL_setI, cL_setW, cL_setI, cL_setI, cL_setI, cL_setI, cL_setI, cL_setI, cL_setI, cL_setI, cL_setI]
    · rw [ck_setI, ck_setW, ck_setI, ck_setI, ck_setI, ck_setI, ck_setI, ck_setI, ck_setI, ck_setI, ck_setI]
    · rw [co_setI, co_setW, co_setI, co_setI, co_setI, co_setI, co_setI, co_setI, co_setI, co_setI, co_setI]
    · rw [col_setI, col_setW, col_setI, col_setI, col_setI, col_setI, col_setI, col_setI, col_setI, col_setI, col_setI]
    · rw [cot_setI, cot_setW, cot_setI, cot_setI, cot_setI, cot_setI, cot_setI, cot_setI, cot_setI, cot_setI, cot_setI]
    · rw [cr_setI, cr_setW, cr_setI, cr_setI, cr_setI, cr_setI, cr_setI, cr_setI, cr_setI, cr_setI, cr_setI]
    · rw [cb_setI, cb_setW, cb_setI, cb_setI, cb_setI, cb_setI, cb_setI, cb_setI, cb_setI, cb_setI, cb_setI]
    · rw [cl_setI, cl_setW, cl_setI, cl_setI, cl_setI, cl_setI, cl_setI, cl_setI, cl_setI, cl_setI, cl_setI]
    · rw [ca_setI, ca_setW, ca_setI, ca_setI, ca_setI, ca_setI, ca_setI, ca_setI, ca_setI, ca_setI, ca_setI]
  rw [← hT]
  clear hT hB B
  obtain ⟨b1, b2, b3, b4, b5, b6, b7, b9, b10, b11⟩ := base
  have ok' : ∀ {x t : Nat}, oK T x t = oK A x t := fun {x t} => by unfold oK; rw [b2, b3]
  have mr : MR A T := ⟨fun j hj => ti j (by omega), fun _ _ => by rw [b11], b9, b10, by rw [b7], fun x hx => ⟨by rw [ok']; exact hx, by rw [b4], by rw [b5]⟩⟩
  have rA := pA.refs hr
  have rT : REFS T := ⟨by rw [b1, b2]; exact rA.1, fun i x hi e => by rw [ok']; exact rA.2.1 i x hi (by rw [← b7]; exact e), by rw [b7]; exact rA.2.2.1, fun i x hi e => by rw [ok']; exact rA.2.2.2.1 i x hi (by rw [← b7]; exact e), by rw [b7]; exact rA.2.2.2.2.1, fun i x hi e => by rw [ok', ok', ok']; exact rA.2.2.2.2.2.1 i x hi (by rw [← b7]; exact e), by rw [b7]; exact rA.2.2.2.2.2.2.1, by unfold inP; rw [b6, b7]; exact rA.2.2.2.2.2.2.2.1, fun b q => by rw [tw] at q; cases q⟩
  have mT : ROOM H T := by
    have := pA.room hm
    unfold ROOM at *; rw [b1, b7]; exact this
  have ceq := pA.ceq.tr mr.ceq
  have wT := ceq.wt hw
  refine q_ticks (D := D) hN N T 0 (by decide) (by decide) (by rw [z_t0]; omega) (Or.inl ⟨rT, mT, wT, by rw [t68]; decide, [], ?_, by show (0 : Nat) ≤ 22; omega, True.intro, Or.inl ⟨t73, True.intro, ?_⟩⟩) (pA.mr.tr mr) rT mT
  · unfold dpI; rw [t67]; decide
  · unfold ONP
    rw [t66, z_t0]
    exact ⟨by omega, by omega, Or.inr ⟨wT.1, wT.2.1⟩⟩
theorem q_perf2 {N : Nat} (hN : 10000000000 ≤ N) {H : Nat} {s : CS} {D : Nat → List Nat} (hr : REFS s) (hm : ROOM H s) (hw : WTC s D) (x1 x2 : Int32) : ∀ (n : Nat) (X : CS) (x3 : Int32), PV s X → 0 ≤ x3.toInt → x3.toInt ≤ 720 → 720 - x3.toInt < n → ok (f_X3_perform_2 N n X x1 x2 x3) (fun R => REFS R.2 ∧ ROOM H R.2 ∧ MR s R.2)
  | 0, _, _, _, _, _, h => by omega
  | n + 1, X, x3, hX, h0, h7, hn => by
    show ok (b_X3_perform_2 N (f_X3_perform_2 N n) X x1 x2 x3) _
    unfold b_X3_perform_2
    have e7 : (720 : Int32).toInt = 720 := by decide
    have e1 : (1 : Int32).toInt = 1 := by decide
    refine ok_ite (fun _ => q_perf35 hN hX hr hm hw x1 x2) (fun _ => ok_ite (fun _ => q_perf35 hN hX hr hm hw x1 x2) (fun c => ?_))
    have l : x3.toInt < 720 := by
      have := lt_int (Int32.not_le.mp c)
      rw [e7] at this; exact this
    have es : (x3 + 1).toInt = x3.toInt + 1 := by rw [toInt_add] <;> rw [e1] <;> omega
    exact ok_chk ⟨h0, l⟩ (q_perf2 hN hr hm hw x1 x2 n _ (x3 + 1) (hX.A 59 _ _ (by decide)) (by omega) (by omega) (by omega))
theorem q_perform {N : Nat} (hN : 10000000000 ≤ N) {H : Nat} {s : CS} {D : Nat → List Nat} (hr : REFS s) (hm : ROOM H s) (hw : WTC s D) (x1 x2 : Int32) : ok (f_X3_perform N s x1 x2) (fun R => REFS R.2 ∧ ROOM H R.2 ∧ MR s R.2) := q_perf2 hN hr hm hw x1 x2 N s 0 (PV.rf s) (by decide) (by decide) (by rw [z_t0]; omega)
end
section
/-! the class's tokens -/
/-- the byte there; -1 behind the end -/
def BY (s : CS) (x : Int32) : Int32 := if ib x 900 ∧ x < s.i 41 then s.a 0 x.toNatClampNeg else -1
def isDg (b : Int32) : Prop := 48 ≤ b.toInt ∧ b.toInt ≤ 57
def isLt (b : Int32) : Prop := 97 ≤ b.toInt ∧ b.toInt ≤ 122
/-- only the tokens' numbers change -/
def TKC (s R : CS) : Prop := (R.hs = s.hs ∧ R.L = s.L ∧ R.k = s.k ∧ R.o = s.o ∧ R.ol = s.ol ∧ R.ot = s.ot ∧ R.oa = s.oa ∧ R.r = s.r ∧ R.w = s.w ∧ R.b = s.b ∧ R.a = s.a) ∧ (∀ j : Nat, j ≠ 42 → j ≠ 43 → j ≠ 44 → j ≠ 45 → R.i j = s.i j)
theorem TKC.rf (s : CS) : TKC s s := ⟨⟨rfl, rfl, rfl, rfl, rfl, rfl, rfl, rfl, rfl, rfl, rfl⟩, fun _ _ _ _ _ => rfl⟩
theorem TKC.tr {s R T : CS} (h : TKC s R) (g : TKC R T) : TKC s T := by
  obtain ⟨⟨a1, a2, a3, a4, a5, a6, a7, a8, a9, a10, a11⟩, b⟩ := h
  obtain ⟨⟨c1, c2, c3, c4, c5, c6, c7, c8, c9, c10, c11⟩, d⟩ := g
  exact ⟨⟨c1.trans a1, c2.trans a2, c3.trans a3, c4.trans a4, c5.trans a5, c6.trans a6, c7.trans a7, c8.trans a8, c9.trans a9, c10.trans a10, c11.trans a11⟩, fun j q1 q2 q3 q4 => (d j q1 q2 q3 q4).trans (b j q1 q2 q3 q4)⟩
theorem TKC.i {s R : CS} (h : TKC s R) (k : Nat) (v : Int32) (hk : k = 42 ∨ k = 43 ∨ k = 44 ∨ k = 45) : TKC s (CS.setI R k v) := ⟨h.1, fun j q1 q2 q3 q4 => (if_neg (by omega)).trans (h.2 j q1 q2 q3 q4)⟩
theorem TKC.l {s R : CS} (h : TKC s R) (v : Int64) : TKC s (CS.setL R v) := ⟨h.1, h.2⟩
theorem TKC.by {s R : CS} (h : TKC s R) (x : Int32) : BY R x = BY s x := by unfold BY; rw [h.1.2.2.2.2.2.2.2.2.2.2, h.2 41 (by decide) (by decide) (by decide) (by decide)]
theorem q_by {N : Nat} {s : CS} (x : Int32) : ok (f_X9_byteAt N s x) (fun R => R.2 = s ∧ R.1 = BY s x) := by
  unfold f_X9_byteAt f_X9_byteAt_30 BY
  have e9 : (900 : Int32).toInt = 900 := by decide
  refine ok_ite (fun c => ok_some ⟨rfl, ?_⟩) (fun c => ok_ite (fun c2 => ok_some ⟨rfl, ?_⟩) (fun c2 => ok_ite (fun c3 => ok_some ⟨rfl, ?_⟩) (fun c3 => ?_)))
  · rw [if_neg (fun q => by have := lt_int c; rw [z_t0] at this; have := q.1.1; omega)]
  · rw [if_neg (fun q => by have := le_int c2; have := lt_int q.2; omega)]
  · rw [if_neg (fun q => by have := le_int c3; have := q.1.2; omega)]
  · have h0 : 0 ≤ x.toInt := by have := le_int (Int32.not_lt.mp c); rw [z_t0] at this; exact this
    have h9 : x.toInt < 900 := by have := lt_int (Int32.not_le.mp c3); rw [e9] at this; exact this
    have hib : ib x 900 := ⟨h0, by omega⟩
    rw [if_pos hib]
    refine ok_some ⟨rfl, ?_⟩
    rw [if_pos ⟨hib, Int32.not_le.mp c2⟩]
theorem q_dg {N : Nat} {s : CS} (x : Int32) : ok (f_X9_isDigit N s x) (fun R => R.2 = s ∧ (¬ R.1 = 0 → isDg x) ∧ (R.1 = 0 → ¬ isDg x)) := by
  unfold f_X9_isDigit f_X9_isDigit_16
  have e1 : (48 : Int32).toInt = 48 := by decide
  have e2 : (57 : Int32).toInt = 57 := by decide
  refine ok_ite (fun c => ok_some ⟨rfl, fun q => absurd rfl q, fun _ q => ?_⟩) (fun c => ok_ite (fun c2 => ok_some ⟨rfl, fun q => absurd rfl q, fun _ q => ?_⟩) (fun c2 => ok_some ⟨rfl, fun _ => ?_, fun q => absurd (show (1 : Int32) = 0 from q) (by decide)⟩))
  · have := lt_int c; have := q.1; omega
  · have := lt_int c2; have := q.2; omega
  · have h1 := le_int (Int32.not_lt.mp c)
    have h2 := le_int (Int32.not_lt.mp c2)
    exact ⟨by omega, by omega⟩
theorem q_lt {N : Nat} {s : CS} (x : Int32) : ok (f_X9_isLetter N s x) (fun R => R.2 = s ∧ (¬ R.1 = 0 → isLt x) ∧ (R.1 = 0 → ¬ isLt x)) := by
  unfold f_X9_isLetter f_X9_isLetter_16
  have e1 : (97 : Int32).toInt = 97 := by decide
  have e2 : (122 : Int32).toInt = 122 := by decide
  refine ok_ite (fun c => ok_some ⟨rfl, fun q => absurd rfl q, fun _ q => ?_⟩) (fun c => ok_ite (fun c2 => ok_some ⟨rfl, fun q => absurd rfl q, fun _ q => ?_⟩) (fun c2 => ok_some ⟨rfl, fun _ => ?_, fun q => absurd (show (1 : Int32) = 0 from q) (by decide)⟩))
  · have := lt_int c; have := q.1; omega
  · have := lt_int c2; have := q.2; omega
  · have h1 := le_int (Int32.not_lt.mp c)
    have h2 := le_int (Int32.not_lt.mp c2)
    exact ⟨by omega, by omega⟩
theorem BY.in {s : CS} {x : Int32} (h : ¬ BY s x = -1) : 0 ≤ x.toInt ∧ x.toInt < 900 ∧ x.toInt < (s.i 41).toInt := by
  unfold BY at h
  by_cases c : ib x 900 ∧ x < s.i 41
  · exact ⟨c.1.1, by have := c.1.2; omega, lt_int c.2⟩
  · rw [if_neg c] at h; exact absurd rfl h
theorem BY.dg {s : CS} {x : Int32} (h : isDg (BY s x) ∨ isLt (BY s x)) : 0 ≤ x.toInt ∧ x.toInt < 900 ∧ x.toInt < (s.i 41).toInt := BY.in (fun e => by
  have e1 : (-1 : Int32).toInt = -1 := by decide
  rw [e] at h
  unfold isDg isLt at h
  rw [e1] at h
  omega)
/-- the shift of one more byte -/
theorem sh8_0 (b : Int32) (h : 0 ≤ b.toInt ∧ b.toInt < 256) : (((0 : Int64) <<< ((8 : Int32).toInt64 &&& 63)) ||| b.toInt64).toInt = b.toInt := by
  have e : ((0 : Int64) <<< ((8 : Int32).toInt64 &&& 63)) ||| b.toInt64 = b.toInt64 := by
    have : (0 : Int64) <<< ((8 : Int32).toInt64 &&& 63) = 0 := by decide
    rw [this]
    exact Int64.zero_or
  rw [e]
  exact Int32.toInt_toInt64 b
theorem sh8_k : ∀ i : Nat, i < 75 → ∀ j : Nat, j < 75 → ((Int64.ofNat (48 + i) <<< ((8 : Int32).toInt64 &&& 63)) ||| Int64.ofNat (48 + j)) < 65536 := by decide +kernel
theorem i64_nat {b : Int32} (h : 48 ≤ b.toInt ∧ b.toInt ≤ 122) : ∃ i : Nat, i < 75 ∧ b.toInt64 = Int64.ofNat (48 + i) := by
  refine ⟨(b.toInt - 48).toNat, by omega, ?_⟩
  refine Int64.toInt_inj.mp ?_
  rw [Int32.toInt_toInt64]
  have : ((Int64.ofNat (48 + (b.toInt - 48).toNat)).toInt : Int) = ((48 + (b.toInt - 48).toNat : Nat) : Int) := by
    rw [Int64.toInt_ofNat_of_lt (by omega)]
  omega
theorem sh8_1 (a b : Int32) (ha : 48 ≤ a.toInt ∧ a.toInt ≤ 122) (hb : 48 ≤ b.toInt ∧ b.toInt ≤ 122) : ((a.toInt64 <<< ((8 : Int32).toInt64 &&& 63)) ||| b.toInt64) < 65536 := by
  obtain ⟨i, i1, i2⟩ := i64_nat ha
  obtain ⟨j, j1, j2⟩ := i64_nat hb
  rw [i2, j2]
  exact sh8_k i i1 j j1
theorem sh8_2 (l : Int64) (b : Int32) (hl : 0 ≤ l.toInt ∧ l.toInt < 65536) (hb : 48 ≤ b.toInt ∧ b.toInt ≤ 122) : 0 ≤ ((l <<< ((8 : Int32).toInt64 &&& 63)) ||| b.toInt64).toInt ∧ ((l <<< ((8 : Int32).toInt64 &&& 63)) ||| b.toInt64).toInt < 16777216 := by
  have e8 : ((8 : Int32).toInt64 &&& 63) = 8 := by decide
  rw [e8]
  have nn : ∀ x : Int64, 0 ≤ x.toInt → (x.toBitVec.toNat : Int) = x.toInt := fun x hx => by
    have h1 : x.toInt = x.toBitVec.toInt := rfl
    have h2 := BitVec.toInt_eq_toNat_cond x.toBitVec
    have h3 := x.toBitVec.isLt
    rw [h1] at hx ⊢
    rw [h2] at hx ⊢
    by_cases c : 2 * x.toBitVec.toNat < 2 ^ 64
    · rw [if_pos c]
    · rw [if_neg c] at hx; omega
  have bn : ∀ x : Int64, x.toBitVec.toNat < 2 ^ 24 → 0 ≤ x.toInt ∧ x.toInt < 16777216 := fun x hx => by
    have h1 : x.toInt = x.toBitVec.toInt := rfl
    have h2 := BitVec.toInt_eq_toNat_cond x.toBitVec
    rw [h1, h2, if_pos (by omega)]
    omega
  have l1 := nn l hl.1
  have eb : b.toInt64.toInt = b.toInt := Int32.toInt_toInt64 _
  have b1 := nn b.toInt64 (by omega)
  refine bn _ ?_
  rw [Int64.toBitVec_or, BitVec.toNat_or]
  refine Nat.or_lt_two_pow ?_ (by omega)
  rw [Int64.toBitVec_shiftLeft]
  have e : ((8 : Int64).toBitVec.smod 64) = 8#64 := by decide
  rw [e]
  show (l.toBitVec <<< 8#64).toNat < 2 ^ 24
  rw [BitVec.shiftLeft_eq', BitVec.toNat_shiftLeft]
  have e2 : (8#64).toNat = 8 := by decide
  rw [e2, Nat.shiftLeft_eq]
  have := Nat.mod_le (l.toBitVec.toNat * 2 ^ 8) (2 ^ 64)
  omega
theorem lg_eq {x y : Int64} (h : lg_cmp x y = 0) : x = y := by
  unfold lg_cmp at h
  by_cases c : x > y
  · rw [if_pos c] at h; exact absurd h (by decide)
  · rw [if_neg c] at h
    by_cases d : x = y
    · exact d
    · rw [if_neg d] at h; exact absurd h (by decide)
/-- what a row of letters and digits is -/
def RTY (s : CS) (z t : Int32) : Prop := t = 2 ∨ ((t = 3 ∨ t = 4 ∨ t = 5) ∧ (z = 2 ∨ z = 3)) ∨ ∃ k : Nat, k < 25 ∧ t.toInt = 200 + (k : Int) ∧ s.b 40 k = s.l
def RTS (s R : CS) : Prop := TKC s R ∧ R.l = s.l ∧ R.i 42 = s.i 42 ∧ R.i 43 = s.i 43 ∧ R.i 44 = s.i 44
theorem RTS.rf (s : CS) : RTS s s := ⟨TKC.rf s, rfl, rfl, rfl, rfl⟩
theorem q_rt171 {N : Nat} {s X : CS} {z : Int32} {x6 : Int64} (hX : RTS s X) (hz : z = 2 ∨ z = 3) : ok (f_X9_rowType_171 N X x6) (fun R => RTS s R.2 ∧ RTY s z R.1) := by
  unfold f_X9_rowType_171
  have t2 : RTY s z 2 := Or.inl rfl
  have t3 : ∀ t : Int32, (t = 3 ∨ t = 4 ∨ t = 5) → RTY s z t := fun t q => Or.inr (Or.inl ⟨q, hz⟩)
  exact ok_ite (fun _ => ok_ite (fun _ => ok_some ⟨hX, t2⟩) (fun _ => ok_some ⟨hX, t3 5 (Or.inr (Or.inr rfl))⟩)) (fun _ => ok_ite (fun _ => ok_ite (fun _ => ok_some ⟨hX, t3 3 (Or.inl rfl)⟩) (fun _ => ok_ite (fun _ => ok_some ⟨hX, t3 4 (Or.inr (Or.inl rfl))⟩) (fun _ => ok_some ⟨hX, t2⟩))) (fun _ => ok_some ⟨hX, t2⟩))
theorem q_rt129 {N : Nat} {s : CS} {z x4 : Int32} {x2 : Int64} (hz : z = 2 ∨ z = 3) : ok (f_X9_rowType_129 N s x2 x4) (fun R => RTS s R.2 ∧ RTY s z R.1) := by
  have st : ∀ v : Int32, RTS s (CS.setI s 45 v) := fun v => ⟨(TKC.rf s).i 45 v (by omega), rfl, ci_ne _ _ _ (by decide), ci_ne _ _ _ (by decide), ci_ne _ _ _ (by decide)⟩
  have r153 : ∀ x6 : Int64, ok (f_X9_rowType_153 N s x2 x4 x6) (fun R => RTS s R.2 ∧ RTY s z R.1) := fun x6 => by
    unfold f_X9_rowType_153
    exact ok_ite (fun _ => q_rt171 (st _) hz) (fun _ => q_rt171 (st _) hz)
  unfold f_X9_rowType_129
  exact ok_ite (fun _ => r153 _) (fun _ => r153 _)
theorem q_rt73 {N : Nat} {s : CS} {z x4 : Int32} {x2 : Int64} (h4 : ¬ x4 = 0 → z = 2 ∨ z = 3) : ok (f_X9_rowType_73 N s z x2 x4) (fun R => RTS s R.2 ∧ RTY s z R.1) := by
  have r117 : ∀ x5 : Int32, (¬ x5 = 0 → z = 2 ∨ z = 3) → ok (f_X9_rowType_117 N s x2 x4 x5) (fun R => RTS s R.2 ∧ RTY s z R.1) := fun x5 h5 => by
    unfold f_X9_rowType_117
    exact ok_ite (fun _ => ok_ite (fun _ => ok_some ⟨RTS.rf s, Or.inl rfl⟩) (fun c => q_rt129 (h5 c))) (fun c => q_rt129 (h4 c))
  have r114 : ok (f_X9_rowType_114 N s x2 x4) (fun R => RTS s R.2 ∧ RTY s z R.1) := by
    unfold f_X9_rowType_114
    exact r117 0 (fun q => absurd rfl q)
  unfold f_X9_rowType_73
  exact ok_ite (fun c => ok_ite (fun _ => r114) (fun _ => ok_ite (fun _ => r114) (fun _ => ok_ite (fun _ => r117 1 (fun _ => Or.inr c)) (fun _ => r114)))) (fun _ => r114)
theorem q_rt2 {N : Nat} {s : CS} {z : Int32} : ∀ (n : Nat) (x2 : Int32), 0 ≤ x2.toInt → x2.toInt ≤ 25 → 25 - x2.toInt < n → ok (f_X9_rowType_2 N n s z x2) (fun R => RTS s R.2 ∧ RTY s z R.1)
  | 0, _, _, _, h => by omega
  | n + 1, x2, h0, h25, hn => by
    show ok (b_X9_rowType_2 N (f_X9_rowType_2 N n) s z x2) _
    unfold b_X9_rowType_2 f_X9_rowType_70
    have e25 : (25 : Int32).toInt = 25 := by decide
    have e1 : (1 : Int32).toInt = 1 := by decide
    have e200 : (200 : Int32).toInt = 200 := by decide
    have r0 : ∀ y : Int64, ok (f_X9_rowType_73 N s z y 0) (fun R => RTS s R.2 ∧ RTY s z R.1) := fun y => q_rt73 (fun q => absurd rfl q)
    refine ok_ite (fun _ => ok_ite (fun c => ok_ite (fun _ => r0 _) (fun _ => ok_ite (fun _ => r0 _) (fun _ => q_rt73 (fun _ => Or.inl c)))) (fun _ => r0 _)) (fun c => ?_)
    have l : x2.toInt < 25 := by
      have := lt_int (Int32.not_le.mp c)
      rw [e25] at this; exact this
    have es : (x2 + 1).toInt = x2.toInt + 1 := by rw [toInt_add] <;> rw [e1] <;> omega
    have ea : (200 + x2).toInt = 200 + x2.toInt := by rw [toInt_add] <;> rw [e200] <;> omega
    have cl := clampI h0
    refine ok_chk ⟨h0, by omega⟩ (ok_ite (fun q => ok_some ⟨RTS.rf s, Or.inr (Or.inr ⟨x2.toNatClampNeg, by omega, ?_, lg_eq q⟩)⟩) (fun _ => q_rt2 n (x2 + 1) (by omega) (by omega) (by omega)))
    show (200 + x2).toInt = _
    rw [ea, cl]
theorem q_rt {N : Nat} (hN : 1000 ≤ N) {s : CS} (z : Int32) : ok (f_X9_rowType N s z) (fun R => RTS s R.2 ∧ RTY s z R.1) := q_rt2 N 0 (by decide) (by decide) (by rw [z_t0]; omega)
def ALN (t : Int32) : Prop := (1 ≤ t.toInt ∧ t.toInt ≤ 5) ∨ 200 ≤ t.toInt
def ALW (t : Int32) : Prop := (2 ≤ t.toInt ∧ t.toInt ≤ 5) ∨ 200 ≤ t.toInt
def AB (s : CS) (x : Int32) : Prop := isDg (BY s x) ∨ isLt (BY s x)
/-- the tokens stand well -/
def LC (s : CS) : Prop := (0 ≤ (s.i 41).toInt ∧ (s.i 41).toInt ≤ 900) ∧ (0 ≤ (s.i 44).toInt ∧ (s.i 44).toInt ≤ (s.i 42).toInt ∧ (s.i 42).toInt ≤ (s.i 41).toInt) ∧ (s.i 43 = 0 → (s.i 42).toInt = (s.i 41).toInt) ∧ (¬ s.i 43 = 0 → (s.i 44).toInt + 1 ≤ (s.i 42).toInt) ∧ ((ALN (s.i 43) → AB s (s.i 44)) ∧ (ALW (s.i 43) → ¬ AB s (s.i 42))) ∧ ((200 ≤ (s.i 43).toInt ∨ (3 ≤ (s.i 43).toInt ∧ (s.i 43).toInt ≤ 5) ∨ (128 ≤ (s.i 43).toInt ∧ (s.i 43).toInt ≤ 135)) → (s.i 44).toInt + 2 ≤ (s.i 42).toInt) ∧ (s.i 43 = 218 ∨ s.i 43 = 219 → (s.i 44).toInt + 4 ≤ (s.i 42).toInt) ∧ (s.i 43 = 2 → (s.i 42).toInt = (s.i 44).toInt + 1 → 97 ≤ s.l.toInt ∧ s.l.toInt ≤ 122) ∧ (s.i 43 = 1 → (s.i 42).toInt = (s.i 44).toInt + 1 → 0 ≤ (s.i 45).toInt ∧ (s.i 45).toInt ≤ 9)
/-- the words are as long as they are -/
def WDC (s : CS) : Prop := (∀ k : Nat, k < 25 → 256 ≤ s.b 40 k) ∧ 16777216 ≤ s.b 40 18 ∧ 16777216 ≤ s.b 40 19
end
