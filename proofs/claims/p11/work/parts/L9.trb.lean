/-! reading: try: body, the whole -/
theorem TRB {N b : Nat} (hN : 1000 ≤ N) (hbk : 1 ≤ b → RUNBW N (b - 1)) {n n' : Nat} {s σ X : RS} {t id : Nat} {P : RS → Prop} {y : Int32} (hI : INV s) (hp : PRL s) (ht : tpI s = t) (h9 : t < 996) (hb : 2 * (t : Int) ≤ fr s + 12 * op s + 2) (hc : 900 - fr s ≤ b) (hn : 36000 + 29 ≤ (n : Int) + 1 + 40 * fr s) (n1 : 1 ≤ n) (hF : ∀ u, FS' s u → P u) (hC : ∀ (m : Nat) (u : RS), PS t s u → fr s + 1 ≤ fr u → (n : Int) + 1 + 40 * fr s + 11 ≤ m + 40 * fr u → ok (f_X12_parse_10 N m u) P) (hid : (id : Int) = trI s) (hσ : HL t id s n' y σ) (gσ : σ.i 15 = 0 → HG s n' σ ∧ (y = 1 → 1 ≤ n')) (hX : HST t id s X) (xi : ∀ j : Nat, j ≠ 56 → X.i j = σ.i j) (xw : waI X = waI s + 1) (xb : X.b = σ.b) (g57 : gv X 57 (waI s).toNat = id) (g58 : gv X 58 (waI s).toNat = goI s) (xa : ∀ k : Nat, k ≠ 57 → k ≠ 58 → k ≠ 72 → X.a k = σ.a k) (x72 : X.a 72 t = -1) : ok (f_X12_parse_10 N n (TH X t 1 3)) P := by
  obtain ⟨a1, a2, ⟨a3, a4, a5⟩, a6, a7, a8, a9, a10, a11⟩ := hσ
  have ns := hI.2.2.2.2
  have fs := hI.1.f0
  have hop := hI.op
  have cs := hI.cd
  have kX : KP t s X := KP.hst hX hid (by omega)
  have X75 : X.i 75 = s.i 75 := hX.ix (by omega) (by decide) (by decide) (by decide) (by decide) (by decide) (by decide)
  by_cases c15 : X.i 15 = 0
  case neg => exact lp_f (u := TH X t 1 3) c15 (hF _ (FS'.th ⟨c15, kX.1.1, by rw [X75]; exact hI.r⟩)) n1
  obtain ⟨⟨g1, g2, g3, g4⟩, g5⟩ := gσ (by rw [← xi 15 (by decide)]; exact c15)
  have tabX : TAB X := hI.2.2.2.1.hst hX hid ns.2.2.2.2.1.1 ns.2.2.2.2.2.2.2.2.2.1.1 ns.2.2.2.2.2.2.2.1.1 xw g57 g58
  have lX : LXI X := a2.of (xi 2 (by decide)) (xi 10 (by decide)) (xi 11 (by decide)) (xi 12 (by decide)) (xi 14 (by decide)) (by rw [xb])
  have fX : fr X = fr σ := by unfold fr; rw [xi 11 (by decide)]
  have tkX : tkI X = tkI σ := by unfold tkI; rw [xi 17 (by decide)]
  have X19 : X.i 19 = s.i 19 := (xi 19 (by decide)).trans a3
  have X52 : X.i 52 = s.i 52 + 1 := (xi 52 (by decide)).trans a4
  have e2 : enI X = enI s := by unfold enI; rw [hX.ix (by omega) (by decide) (by decide) (by decide) (by decide) (by decide) (by decide)]
  have e3 := hX.2.2.1
  have e4 : caI X = caI s := by unfold caI; rw [hX.ix (by omega) (by decide) (by decide) (by decide) (by decide) (by decide) (by decide)]
  have X38 : X.i 38 = s.i 38 := hX.ix (by omega) (by decide) (by decide) (by decide) (by decide) (by decide) (by decide)
  have e5 : seI X = seI s := by unfold seI; rw [X38]
  have e6 : slI X = slI s := by unfold slI; rw [hX.ix (by omega) (by decide) (by decide) (by decide) (by decide) (by decide) (by decide)]
  have X43 : X.i 43 = s.i 43 := hX.ix (by omega) (by decide) (by decide) (by decide) (by decide) (by decide) (by decide)
  have e7 : goI X = goI s := by unfold goI; rw [X43]
  have e10 : peI X = peI s := by unfold peI; rw [hX.ix (by omega) (by decide) (by decide) (by decide) (by decide) (by decide) (by decide)]
  have cX : cdI X = cdI s + 2 + n' := by rw [← a6]; unfold cdI; rw [xi 20 (by decide)]
  have e1' : (1 : Int32).toInt = 1 := by decide
  have de0 : 0 ≤ (s.i 52).toInt ∧ 4 * (s.i 52).toInt ≤ fr s + 2 * op s + 2 := ns.2.2.2.2.2.2.2.2.1
  have des := ns.2.2.2.2.2.2.2.2.1
  have dX : deI X = deI s + 1 := by
    show (X.i 52).toInt = (s.i 52).toInt + 1
    rw [X52, toInt_add] <;> rw [e1'] <;> omega
  have oX := op_of X19
  have iX : INVW X := by
    refine ⟨lX, hI.2.1.kp kX, c15, tabX, ?_⟩
    unfold NUM at ns
    unfold NUMW
    rw [oX, cX, e2, e3, e4, e5, e6, e7, dX, xw, e10, fX, tkX]
    omega
  have tX : tpI X = t := by
    unfold tpI
    rw [hX.ix (j := 63) (by omega) (by decide) (by decide) (by decide) (by decide) (by decide) (by decide)]
    exact ht
  have pX : PRL X := hp.kp kX e7
  have fXf := lX.f0
  refine CALLBW (hbk (by omega)) iX pX tX (by omega) (by omega) (by omega) (by omega) (fun u hu => hF u (FS'.kp kX hu)) (fun m2 v hv hm2 => ?_)
  obtain ⟨v1, v2, v3, v4, v5, v6, v7, v8, v9, v10, v11, v12⟩ := hv
  have fv := v1.1.f0
  have cv := v1.cd
  obtain ⟨m3, rfl⟩ : ∃ m3, m2 = m3 + 1 := ⟨m2 - 1, by omega⟩
  have push2 : ((m3 + 1 : Nat) : Int) = (m3 : Int) + 1 := by omega
  rw [push2] at hm2
  have lv : ∀ k : Nat, 64 ≤ k → k ≤ 73 → k ≠ 65 → k ≠ 72 → v.a k t = σ.a k t := fun k q1 q2 q3 q4 => by rw [v12 k q1 q2 q3, xa k (by omega) (by omega) q4]
  refine lp_15 v2 (by omega) v1.2.2.1 ((lv 64 (by omega) (by omega) (by omega) (by omega)).trans a11.1) ?_
  unfold f_X12_trying
  rw [if_pos (tp_ib v2 (by omega)), tp_nat v2, if_neg (by rw [v11]; decide), if_pos v11]
  have s68 : ∃ r : Int32, (if (v.i 75) = 0 then f_X12_trying_287 N (RS.setA v 68 t 0) (v.i 63) else f_X12_trying_287 N (RS.setA v 68 t 1) (v.i 63)) = f_X12_trying_287 N (RS.setA v 68 t r) (v.i 63) ∧ (v.i 75 = 1 → r = 1) := by
    by_cases c : v.i 75 = 0
    · rw [if_pos c]; exact ⟨0, rfl, fun q => by rw [c] at q; exact absurd q (by decide)⟩
    · rw [if_neg c]; exact ⟨1, rfl, fun _ => rfl⟩
  obtain ⟨r, er, hr1⟩ := s68
  rw [er]
  clear er
  unfold f_X12_trying_287
  obtain ⟨Y, hY⟩ : ∃ Y, Y = RS.setA v 68 t r := ⟨_, rfl⟩
  have iY : Y.i = v.i := by rw [hY]; rfl
  have bY : Y.b = v.b := by rw [hY]; rfl
  have aY : ∀ k : Nat, k ≠ 68 → Y.a k = v.a k := fun k hk => by rw [hY]; exact setA_nk hk
  have Y68 : Y.a 68 t = r := by rw [hY]; exact setA_at
  have kY : KP t v Y := by rw [hY]; exact (KP.rf t v).loc t _ (by omega) (by omega) (Nat.le_refl _)
  have tbY : TBL v Y := by rw [hY]; exact TBL.loc v t _ (by omega) (by omega)
  have iiY : INVW Y := by rw [hY]; exact v1.loc t _ (by omega) (by omega)
  rw [← hY]
  clear hY
  have cY : cdI Y = cdI v := tbY.cd
  rw [if_pos (tp_ib v2 (by omega)), tp_nat v2, p_em 33 (Y.a 66 t) (by omega) (by omega)]
  obtain ⟨E, hE⟩ : ∃ E, E = EM Y 33 (Y.a 66 t) := ⟨_, rfl⟩
  have iE : ∀ j : Nat, j ≠ 20 → E.i j = v.i j := fun j hj => by rw [hE, ← iY]; exact EM.i hj
  have aE : ∀ k : Nat, k ≠ 21 → k ≠ 22 → k ≠ 23 → E.a k = Y.a k := fun k q1 q2 q3 => by rw [hE]; exact EM.a q1 q2 q3
  have cE : cdI E = cdI v + 1 := by rw [hE, EM.cd (by omega) (by omega), cY]
  have E21 : E.a 21 (cdI v).toNat = 33 := by rw [hE, EM.a21, if_pos (by rw [cY])]
  have bE : E.b = v.b := by rw [hE]; exact bY
  have kE : KP t v E := by rw [hE]; exact kY.em cv.1 (by omega)
  have tabE : TAB E := by rw [hE]; exact iiY.2.2.2.1.em (by omega) (by omega)
  have lE : LXI E := by rw [hE]; exact iiY.1.em
  show ok (f_X12_parse_10 N m3 (RS.setA (EM Y 33 (Y.a 66 t)) 65 t 2)) P
  rw [← hE]
  clear hE
  obtain ⟨w, hw⟩ : ∃ w, w = RS.setA E 65 t 2 := ⟨_, rfl⟩
  have wiE : w.i = E.i := by rw [hw]; rfl
  have wa : ∀ k : Nat, k ≠ 65 → w.a k = E.a k := fun k hk => by rw [hw, setA_nk hk]
  have w65 : w.a 65 t = 2 := by rw [hw]; exact setA_at
  have wb : w.b = v.b := by rw [hw]; exact bE
  have tbw : TBL E w := by rw [hw]; exact TBL.loc E t _ (by omega) (by omega)
  have kw : KP t v w := by rw [hw]; exact kE.loc t _ (by omega) (by omega) (Nat.le_refl _)
  have lw : LXI w := by rw [hw]; exact lE.sA 65 t 2
  rw [← hw]
  clear hw
  have wv : ∀ j : Nat, j ≠ 20 → w.i j = v.i j := fun j q1 => by rw [wiE]; exact iE j q1
  have wav : ∀ k : Nat, k ≠ 21 → k ≠ 22 → k ≠ 23 → k ≠ 65 → k ≠ 68 → w.a k = v.a k := fun k q1 q2 q3 q4 q5 => (wa k q4).trans ((aE k q1 q2 q3).trans (aY k q5))
  have ksv : KP t s v := kX.tr v3 (Nat.le_refl _)
  have ksw : KP t s w := ksv.tr kw (Nat.le_refl _)
  have sw : SAME v w := ⟨wv 19 (by decide), wv 43 (by decide), wv 52 (by decide), wv 56 (by decide)⟩
  have fw' : fr w = fr v := by unfold fr; rw [wv 11 (by decide)]
  have tkw' : tkI w = tkI v := by unfold tkI; rw [wv 17 (by decide)]
  have cw' : cdI w = cdI v + 1 := by rw [tbw.cd]; exact cE
  have q1 : op w = op v := op_of (wv 19 (by decide))
  have q2 : enI w = enI v := by unfold enI; rw [wv 24 (by decide)]
  have q3 : trI w = trI v := by unfold trI; rw [wv 29 (by decide)]
  have q4 : caI w = caI v := by unfold caI; rw [wv 33 (by decide)]
  have q5 : seI w = seI v := by unfold seI; rw [wv 38 (by decide)]
  have q6 : slI w = slI v := by unfold slI; rw [wv 42 (by decide)]
  have q7 : goI w = goI v := by unfold goI; rw [wv 43 (by decide)]
  have q8 : deI w = deI v := by unfold deI; rw [wv 52 (by decide)]
  have q9 : waI w = waI v := by unfold waI; rw [wv 56 (by decide)]
  have q10 : peI w = peI v := by unfold peI; rw [wv 59 (by decide)]
  have tabw : TAB w := tabE.tbl tbw (fun γ hγ => by
    have := (tabE.2.2.2.2.2.2.1 γ hγ).2
    have e : deI w = deI E := by unfold deI; rw [wiE]
    omega) (by rw [wv 75 (by decide)]; exact v1.r)
  have nv := v1.2.2.2.2
  have nX := iX.2.2.2.2
  have v5' := v5
  unfold RATE at v5'
  have iw : INVW w := by
    refine ⟨lw, hI.2.1.kp ksw, (wv 15 (by decide)).trans v1.2.2.1, tabw, ?_⟩
    have ns1 := ns.2.1
    unfold NUMW at nv ⊢
    rw [q1, cw', q2, q3, q4, q5, q6, q7, q8, q9, q10, fw', tkw']
    omega
  have kv := v3.2.1
  have kq := v3.2.2.2.2.2.2.2.2.1
  have kt := v3.2.2.2.1
  have ws0 := ns.2.2.2.2.2.2.2.2.2.1
  have g57w : ∀ k : Nat, k = 57 ∨ k = 58 → gv w k (waI s).toNat = gv X k (waI s).toNat := fun k hk => by
    have hlt : (((waI s).toNat : Nat) : Int) < waI X := by omega
    have e9 : v.a k (waI s).toNat = X.a k (waI s).toNat := by
      rcases hk with q | q
      · subst q; exact kq.2.1 _ hlt
      · subst q; exact kq.2.2 _ hlt
    unfold gv
    rw [wav k (by omega) (by omega) (by omega) (by omega) (by omega), e9]
  have kXw : KP t X w := v3.tr kw (Nat.le_refl _)
  have low : ∀ k : Nat, (k : Int) < cdI X → w.a 21 k = σ.a 21 k ∧ w.a 22 k = σ.a 22 k := fun k hk => ⟨by rw [kXw.2.1.2.1 k hk, xa 21 (by decide) (by decide) (by decide)], by rw [kXw.2.1.2.2.1 k hk, xa 22 (by decide) (by decide) (by decide)]⟩
  have idX : (id : Int) < trI X := by omega
  have w30 : gv w 30 id = -1 := by
    have := hX.2.2.2.2.2.2.2.1
    unfold gv at this ⊢
    rw [kXw.2.2.2.1.2.1 id idX]; exact this
  have w31 : gv w 31 id = -1 := by
    unfold gv at a8 ⊢
    rw [kXw.2.2.2.1.2.2.1 id idX, xa 31 (by decide) (by decide) (by decide)]; exact a8
  have opsw : OPS n' w (cdI s + 2) := a10.of (by omega) (fun k k1 k2 _ => low k (by omega))
  have w68 : w.a 68 t = r := by rw [wa 68 (by decide), aE 68 (by decide) (by decide) (by decide)]; exact Y68
  have hti : TI t s id [] (cdI w) w := by
    refine ⟨⟨iw, by unfold tpI; rw [wv 63 (by decide)]; exact v2, ksw, pX.kp kXw (by rw [q7]; exact v4.go)⟩, ⟨by rw [wv 19 (by decide), v4.1]; exact X19, by rw [wv 43 (by decide), v4.2.1]; exact X43, by rw [wv 52 (by decide), v4.2.2.1]; exact X52, by rw [q9, v4.wa]; exact xw, by rw [wv 38 (by decide), v6]; exact X38⟩, ⟨by rw [g57w 57 (Or.inl rfl)]; exact g57, by rw [g57w 58 (Or.inr rfl)]; exact g58⟩, ⟨?_, by omega, by omega⟩, ⟨?_, ?_, Or.inl ⟨rfl, ?_⟩, fun h67 => ?_⟩, ⟨by rw [(low _ (by omega)).1]; exact a7.1, by rw [(low _ (by omega)).1]; exact a7.2.1, by rw [(low _ (by omega)).2]; exact a7.2.2⟩, ⟨by rw [q3]; have := kt.1; omega, w31, by rw [w30]; show (-1 : Int) < 0; omega, fun j hj => absurd hj List.not_mem_nil⟩, ⟨by have := kv.1; omega, Int.le_refl _⟩, fun z => ?_⟩
    · unfold RATN
      rw [cw', q2, q3, q4, q6, q10, fw', tkw']
      omega
    · rw [wav 64 (by decide) (by decide) (by decide) (by decide) (by decide), lv 64 (by omega) (by omega) (by omega) (by omega)]; exact a11.1
    · rw [wav 66 (by decide) (by decide) (by decide) (by decide) (by decide), lv 66 (by omega) (by omega) (by omega) (by omega)]; exact a11.2.1
    · rw [wav 72 (by decide) (by decide) (by decide) (by decide) (by decide), v12 72 (by omega) (by omega) (by omega), x72]; decide
    · have h1 : w.a 67 t = 1 := by
        rcases h67 with q | q
        · exact q
        · exact absurd rfl q
      rw [wav 67 (by decide) (by decide) (by decide) (by decide) (by decide), lv 67 (by omega) (by omega) (by omega) (by omega), a11.2.2] at h1
      have := g5 h1
      have := g2 (by omega)
      rw [q3, fw']
      omega
    · have z1 : ¬ 0 ≤ v.i 18 := fun q => z (by rw [wv 18 (by decide)]; exact q)
      refine (TRX.body hI kX (by omega) (by omega) cX opsw (v10 z1) v3 v4 v1 kw sw cw' (by rw [wa 21 (by decide)]; exact E21) X38 dX e7 (by omega) (by omega) (by omega) idX).mono (fun q => ?_)
      rw [w68]; exact hr1 q
  obtain ⟨m4, rfl⟩ : ∃ m4, m3 = m4 + 1 := ⟨m3 - 1, by omega⟩
  have push4 : ((m4 + 1 : Nat) : Int) = (m4 : Int) + 1 := by omega
  rw [push4] at hm2
  exact TRL (B0 := (n : Int) + 1 + 40 * fr s + 11) hN hbk hI h9 hb hc hF hid hC 1000 m4 [] w hti w65 (by omega) (by omega) (by omega)
theorem run_try {N b : Nat} (hN : 1000 ≤ N) (hbk : 1 ≤ b → RUNBW N (b - 1)) : RUNU N b 15 (fun x => x = 423) := by
  intro n s u t P hI hp ht hu tu u15 hT hz h9 hb hc hn n1 hF hC
  have hf := hI.1.f0
  have hop := hI.op
  have ns := hI.2.2.2.2
  refine lp_15 tu (by omega) u15 hu.2.2.2.2.2.2.1 ?_
  unfold f_X12_trying
  rw [if_pos (tp_ib tu (by omega)), tp_nat tu, if_pos hu.2.2.2.2.2.2.2.1]
  obtain ⟨R, eR, hR, xR⟩ := STA hN hI ht hz hu
  rw [eR]
  clear eR
  show ok ((if ib (R.i 29) 200 then (f_X12_emit N (RS.setI (RS.setA (RS.setA (RS.setA R 66 t (R.i 29)) 30 (((R.i 29) : Int32).toNatClampNeg) (-1)) 31 (((R.i 29) : Int32).toNatClampNeg) (-1)) 29 ((R.i 29) + 1)) 31 ((upd (R.a 66) t (R.i 29)) t)).bind fun p6 => (if (p6.2.i 10) = 424 then f_X12_trying_124 N (RS.setA (RS.setI p6.2 52 ((p6.2.i 52) + 1)) 67 t 1) (u.i 63) else f_X12_trying_124 N (RS.setA (RS.setI p6.2 52 ((p6.2.i 52) + 1)) 67 t 0) (u.i 63)) else none : Option RS).bind fun p => f_X12_parse_10 N n p) P
  obtain ⟨id, hid⟩ : ∃ id : Nat, (id : Int) = trI s := ⟨(trI s).toNat, by have := ns.2.2.2.1; omega⟩
  have rI : ∀ j : Nat, (j < 10 ∨ 18 ≤ j) → j ≠ 19 → j ≠ 20 → j ≠ 53 → R.i j = s.i j := fun j q0 q1 q2 q3 => (xR.2.2.1 j q0 q1).trans (hu.2.1 j q2 q3)
  have R29I : (R.i 29).toInt = (id : Int) := by rw [rI 29 (by omega) (by decide) (by decide) (by decide), hid]; rfl
  have id2 := ns.2.2.2.1
  rw [if_pos (show ib (R.i 29) 200 from ⟨by omega, by omega⟩), k_nat R29I]
  have eU : upd (R.a 66) t (R.i 29) t = R.i 29 := if_pos rfl
  rw [eU]
  have f2 := hR.2.2.2.2.2.2.2.2.2.2.2.2.1 (by rw [hT]; decide)
  obtain ⟨E, eE, E10, E15, E52, hD⟩ := p_try0 (N := N) hI ht h9 hid rI hR f2
  rw [eE]
  clear eE
  have hpl : PRL s := hp.prl (by rw [hT]; decide)
  have fin : ∀ (y x2 : Int32), (x2 = 0 ∨ x2 = 1) → (y = 1 → x2 = 1) → (x2 = 1 → E.i 10 = 424) → ok ((f_X12_trying_140 N N (RS.setA (RS.setI E 52 (E.i 52 + 1)) 67 t y) (u.i 63) x2).bind fun p => f_X12_parse_10 N n p) P := fun y x2 h1 h2 h3 => by
    obtain ⟨hL, hG⟩ := hD y
    have fL := hL.2.1.f0
    obtain ⟨σ, n', eσ, hσ, gσ⟩ := p_t140 hN (x1 := u.i 63) hI N _ x2 0 hL h1 (fun _ => ⟨hG, fun q => ⟨Or.inl (h3 q), fun _ => h3 q⟩, fun q q' => by rw [h2 q'] at q; exact absurd q (by decide)⟩) (by omega)
    rw [eσ]
    clear eσ
    obtain ⟨X, eX, y1, y2, y3, y4, y5, y6, y7, y8⟩ := p_t215 (N := N) (x1 := u.i 63) hI ht h9 (tp_ib tu (by omega)) (tp_nat tu) hσ
    rw [eX]
    exact TRB hN hbk hI hpl ht (by omega) hb hc hn n1 hF hC hid hσ gσ y1 y2 y3 y4 y5 y6 y7 y8
  show ok ((if (E.i 10) = 424 then f_X12_trying_124 N (RS.setA (RS.setI E 52 ((E.i 52) + 1)) 67 t 1) (u.i 63) else f_X12_trying_124 N (RS.setA (RS.setI E 52 ((E.i 52) + 1)) 67 t 0) (u.i 63) : Option RS).bind fun p => f_X12_parse_10 N n p) P
  unfold f_X12_trying_124
  have e10 : ∀ y : Int32, (RS.setA (RS.setI E 52 ((E.i 52) + 1)) 67 t y).i 10 = E.i 10 := fun _ => rfl
  by_cases c : E.i 10 = 424
  · rw [if_pos c, if_pos (by rw [e10]; exact c)]
    exact fin 1 1 (Or.inr rfl) (fun _ => rfl) (fun _ => c)
  · rw [if_neg c, if_neg (by rw [e10]; exact c)]
    exact fin 0 0 (Or.inl rfl) (fun q => q) (fun q => absurd q (by decide))
