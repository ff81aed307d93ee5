/-! reading: try: a finally, run -/
theorem TRF {N b : Nat} (hN : 1000 ≤ N) (hbk : 1 ≤ b → RUNBW N (b - 1)) {m : Nat} {s w : RS} {t id : Nat} {CL : List Nat} {e : Int} {P : RS → Prop} (hI : INV s) (h9 : t < 996) (hb : 2 * (t : Int) ≤ fr s + 12 * op s + 2) (hc : 900 - fr s ≤ b) (hF : ∀ u, FS' s u → P u) (hid : (id : Int) = trI s) (hw : TI t s id CL e w) (w65 : w.a 65 t = 2) (tok : w.i 10 = 426) (hn : 36000 + 40 ≤ (m : Int) + 40 * fr w) (hC : ∀ (m' : Nat) (u : RS), PS t s u → fr w + 1 ≤ fr u → (m : Int) + 40 * fr w + 40 ≤ m' + 40 * fr u → ok (f_X12_parse_10 N m' u) P) : ok (f_X12_parse_10 N (m + 1) w) P := by
  obtain ⟨⟨a1, a2, a3, a4⟩, ⟨b1, b2, b3, b4, b5⟩, ⟨c1, c2⟩, ⟨d1, d2, d3⟩, ⟨e1, e2, e3, e4⟩, ⟨f1, f2, f3⟩, ⟨g1, g2, g3, g4⟩, ⟨h1, h2⟩, k1⟩ := (show TI t s id CL e w from hw)
  have ns := hI.2.2.2.2
  have nw := a1.2.2.2.2
  have fs := hI.1.f0
  have fw := a1.1.f0
  have hop := hI.op
  have ws0 := ns.2.2.2.2.2.2.2.2.2.1
  have cs := hI.cd
  have i1 : (1 : Int32).toInt = 1 := by decide
  have id2 : id < 200 := by have := ns.2.2.2.1; omega
  refine lp_15 a2 (by omega) a1.2.2.1 e1 ?_
  unfold f_X12_trying
  rw [if_pos (tp_ib a2 (by omega)), tp_nat a2, if_neg (by rw [w65]; decide), if_neg (by rw [w65]; decide), if_pos w65, if_neg (by rw [tok]; decide), if_pos tok]
  obtain ⟨Y, hY⟩ : ∃ Y, Y = RS.setI w 56 ((w.i 56) - 1) := ⟨_, rfl⟩
  have yi : ∀ j : Nat, j ≠ 56 → Y.i j = w.i j := fun j hj => by rw [hY]; exact if_neg hj
  have ya : Y.a = w.a := by rw [hY]; rfl
  have yb : Y.b = w.b := by rw [hY]; rfl
  have Y56 : Y.i 56 = s.i 56 := by
    have e : Y.i 56 = w.i 56 - 1 := by rw [hY]; rfl
    have h56 : (w.i 56).toInt = (s.i 56).toInt + 1 := b4
    have hs : (s.i 56).toInt = waI s := rfl
    refine Int32.toInt_inj.mp ?_
    rw [e, toInt_sub] <;> rw [i1] <;> omega
  rw [← hY]
  clear hY
  have waY : waI Y = waI s := by unfold waI; rw [Y56]
  have tY : TAB Y := a1.2.2.2.1.wd yi (fun k _ => by rw [ya]) (by omega)
  have kY : KP t s Y := a3.wd yi yb ya (by omega)
  have lY : LXI Y := a1.1.of (yi 2 (by decide)) (yi 10 (by decide)) (yi 11 (by decide)) (yi 12 (by decide)) (yi 14 (by decide)) (by rw [yb])
  have fY : fr Y = fr w := by unfold fr; rw [yi 11 (by decide)]
  have tkY : tkI Y = tkI w := by unfold tkI; rw [yi 17 (by decide)]
  obtain ⟨R, eR, l1, l2, l3, l4⟩ := p_nx hN lY
  rw [eR]
  clear eR
  obtain ⟨R15, rc⟩ := l4 ((yi 15 (by decide)).trans a1.2.2.1)
  obtain ⟨n1, n2, n3⟩ := rc (by rw [yi 10 (by decide), tok]; decide)
  have n3 := n3 (Or.inl (by rw [yi 10 (by decide), tok]; decide))
  have tkw := nw.2.2.2.2.2.2.2.2.2.2.2
  have tkR : tkI R = tkI Y + 1 := tk_add n1 ⟨by omega, by omega⟩
  have r66 : (R.a 66 t).toInt = (id : Int) := by rw [l1.1, ya]; exact e2
  show ok ((if ib (R.a 66 t) 200 then (f_X12_then N (RS.setA R 31 ((R.a 66 t).toNatClampNeg) (R.i 20)) 4 3).bind fun p65 => some p65 else none : Option RS).bind fun p => f_X12_parse_10 N m p) P
  rw [if_pos (show ib (R.a 66 t) 200 from ⟨by omega, by omega⟩), k_nat r66]
  obtain ⟨X, hX⟩ : ∃ X, X = RS.setA R 31 id (R.i 20) := ⟨_, rfl⟩
  have xi : X.i = R.i := by rw [hX]; rfl
  have xb : X.b = R.b := by rw [hX]; rfl
  have xa : ∀ k : Nat, k ≠ 31 → X.a k = R.a k := fun k hk => by rw [hX]; exact setA_nk hk
  have x31 : ∀ j : Nat, j ≠ id → X.a 31 j = R.a 31 j := fun j hj => by rw [hX]; exact setA_ne hj
  have x31i : X.a 31 id = R.i 20 := by rw [hX]; exact setA_at
  have tpX : tpI X = t := by unfold tpI; rw [xi, l1.2.2.1 63 (by omega) (by omega), yi 63 (by decide)]; exact a2
  rw [← hX, p_th 4 3 tpX (by omega)]
  clear hX
  show ok (f_X12_parse_10 N m (TH X t 4 3)) P
  have xw : ∀ j : Nat, j < 10 ∨ 18 ≤ j → j ≠ 56 → j ≠ 19 → X.i j = w.i j := fun j q1 q2 q3 => by rw [xi, l1.2.2.1 j q1 q3, yi j q2]
  have xaw : ∀ k : Nat, k ≠ 31 → X.a k = w.a k := fun k hk => by rw [xa k hk, l1.1, ya]
  have tX : TAB X := (tY.lx l1).s31 xi xa
  have kX : KP t s X := (kY.lx l1).s31 xi xb xa (fun j hj => x31 j (by omega))
  have X19 : X.i 19 = w.i 19 := by rw [xi, l2, yi 19 (by decide)]
  have X56 : X.i 56 = s.i 56 := by rw [xi, l1.2.2.1 56 (by omega) (by omega)]; exact Y56
  have fX : fr X = fr R := by unfold fr; rw [xi]
  have tkX : tkI X = tkI R := by unfold tkI; rw [xi]
  have cdX : cdI X = cdI w := by unfold cdI; rw [xw 20 (by omega) (by omega) (by omega)]
  have enX : enI X = enI w := by unfold enI; rw [xw 24 (by omega) (by omega) (by omega)]
  have trX : trI X = trI w := by unfold trI; rw [xw 29 (by omega) (by omega) (by omega)]
  have caX : caI X = caI w := by unfold caI; rw [xw 33 (by omega) (by omega) (by omega)]
  have seX : seI X = seI w := by unfold seI; rw [xw 38 (by omega) (by omega) (by omega)]
  have slX : slI X = slI w := by unfold slI; rw [xw 42 (by omega) (by omega) (by omega)]
  have goX : goI X = goI w := by unfold goI; rw [xw 43 (by omega) (by omega) (by omega)]
  have deX : deI X = deI w := by unfold deI; rw [xw 52 (by omega) (by omega) (by omega)]
  have peX : peI X = peI w := by unfold peI; rw [xw 59 (by omega) (by omega) (by omega)]
  have waX : waI X = waI s := by unfold waI; rw [X56]
  have opX : op X = op w := by unfold op; rw [X19]
  have ops : op w = op s := by unfold op; rw [b1]
  have lX : LXI X := l1.2.2.2.1.of (by rw [xi]) (by rw [xi]) (by rw [xi]) (by rw [xi]) (by rw [xi]) (by rw [xb])
  have iX : INVW X := by
    refine ⟨lX, hI.2.1.kp kX, by rw [xi]; exact R15, tX, ?_⟩
    unfold NUMW at nw ⊢
    rw [opX, cdX, enX, trX, caX, seX, slX, goX, deX, waX, peX, tkX, fX]
    omega
  have pX : PRL X := by
    have b44 : bel 44 (goI w) w X := fun j _ => by rw [xaw 44 (by decide)]
    have b46 : bel 46 (goI w) w X := fun j _ => by rw [xaw 46 (by decide)]
    refine ⟨fun γ q1 q2 q3 => ?_, fun γ q1 => a4.2 γ (q1.of goX b44 b46)⟩
    have y1 := (ACC.of goX b44 γ).mp q1
    have e : gv X 46 γ = gv w 46 γ := gv_of (xaw 46 (by decide)) γ
    rw [e] at q3
    obtain ⟨z1, z2, z3⟩ := a4.1 γ y1 (by rw [← b44 γ y1.1]; exact q2) q3
    rw [e, goX]
    exact ⟨z1, z2, by rw [b44 _ (by omega)]; exact z3⟩
  have fXf := iX.1.f0
  refine CALLBW (hbk (by omega)) iX pX tpX (by omega) (by omega) (by omega) (by omega) (fun u hu => hF u (FS'.kp kX hu)) (fun m2 v hv hm2 => ?_)
  obtain ⟨v1, v2, v3, v4, v5, v6, v7, v8, v9, v10, v11, v12⟩ := hv
  have fv := v1.1.f0
  have cv := v1.cd
  obtain ⟨m3, rfl⟩ : ∃ m3, m2 = m3 + 1 := ⟨m2 - 1, by omega⟩
  have push2 : ((m3 + 1 : Nat) : Int) = (m3 : Int) + 1 := by omega
  rw [push2] at hm2
  have lv : ∀ k : Nat, 64 ≤ k → k ≤ 73 → k ≠ 65 → v.a k t = w.a k t := fun k q1 q2 q3 => (v12 k q1 q2 q3).trans (by rw [xaw k (by omega)])
  refine lp_15 v2 (by omega) v1.2.2.1 ((lv 64 (by omega) (by omega) (by omega)).trans e1) ?_
  unfold f_X12_trying
  rw [if_pos (tp_ib v2 (by omega)), tp_nat v2, if_neg (by rw [v11]; decide), if_neg (by rw [v11]; decide), if_neg (by rw [v11]; decide), if_neg (by rw [v11]; decide), p_em 35 (v.a 66 t) (by omega) (by omega)]
  obtain ⟨E, hE⟩ : ∃ E, E = EM v 35 (v.a 66 t) := ⟨_, rfl⟩
  show ok (((f_X12_endTry N (EM v 35 (v.a 66 t)) (v.i 63) ((EM v 35 (v.a 66 t)).i 75)).bind fun p77 => some p77).bind fun p => f_X12_parse_10 N m3 p) P
  rw [bind_some, ← hE]
  have iE : ∀ j : Nat, j ≠ 20 → E.i j = v.i j := fun j hj => by rw [hE]; exact EM.i hj
  have aE : ∀ k : Nat, k ≠ 21 → k ≠ 22 → k ≠ 23 → E.a k = v.a k := fun k q1 q2 q3 => by rw [hE]; exact EM.a q1 q2 q3
  have cE : cdI E = cdI v + 1 := by rw [hE]; exact EM.cd (by omega) (by omega)
  have E21 : E.a 21 (cdI v).toNat = 35 := by rw [hE, EM.a21, if_pos rfl]
  have bE : E.b = v.b := by rw [hE]; rfl
  have kvE : KP t v E := by rw [hE]; exact (KP.rf t v).em cv.1 (by omega)
  have tabE : TAB E := by rw [hE]; exact v1.2.2.2.1.em (by omega) (by omega)
  clear hE
  have kXE : KP t X E := v3.tr kvE (Nat.le_refl _)
  have ksE : KP t s E := kX.tr kXE (Nat.le_refl _)
  have lE : LXI E := v1.1.of (iE 2 (by decide)) (iE 10 (by decide)) (iE 11 (by decide)) (iE 12 (by decide)) (iE 14 (by decide)) (by rw [bE])
  have fE : fr E = fr v := by unfold fr; rw [iE 11 (by decide)]
  have tkE : tkI E = tkI v := by unfold tkI; rw [iE 17 (by decide)]
  have enE : enI E = enI v := by unfold enI; rw [iE 24 (by decide)]
  have trE : trI E = trI v := by unfold trI; rw [iE 29 (by decide)]
  have caE : caI E = caI v := by unfold caI; rw [iE 33 (by decide)]
  have slE : slI E = slI v := by unfold slI; rw [iE 42 (by decide)]
  have goE : goI E = goI v := by unfold goI; rw [iE 43 (by decide)]
  have peE : peI E = peI v := by unfold peI; rw [iE 59 (by decide)]
  have gus : goI w = goI s := by unfold goI; rw [b2]
  have goV : goI v = goI X := v4.go
  have v5' := v5
  unfold RATE at v5'
  have d1' := d1
  unfold RATN at d1'
  have trv := v3.2.2.2.1.1
  have cdv := v3.2.1.1
  have E75 : E.i 75 = v.i 75 := iE 75 (by decide)
  have ra : RATE s E := by
    unfold RATE
    rw [cE, enE, trE, caE, slE, peE, fE, tkE]
    omega
  have Es : ∀ j : Nat, j = 43 ∨ j = 52 → E.i j = w.i j := fun j hj => by
    rcases hj with q | q
    · subst q; rw [iE 43 (by decide), v4.2.1, xw 43 (by omega) (by omega) (by omega)]
    · subst q; rw [iE 52 (by decide), v4.2.2.1, xw 52 (by omega) (by omega) (by omega)]
  refine TREND hN hI (by omega) (by rw [E75]; exact v1.r) (tp_ib v2 (by omega)) (tp_nat v2) lE ((iE 15 (by decide)).trans v1.2.2.1) tabE (by unfold tpI; rw [iE 63 (by decide)]; exact v2) ksE ((iE 19 (by decide)).trans (v4.1.trans (X19.trans b1))) ((Es 43 (Or.inl rfl)).trans b2) ((Es 52 (Or.inr rfl)).trans b3) ((iE 56 (by decide)).trans (v4.2.2.2.trans X56)) ((iE 38 (by decide)).trans (v6.trans ((xw 38 (by omega) (by omega) (by omega)).trans b5))) ra (by omega) (by omega) (by rw [aE 66 (by decide) (by decide) (by decide), lv 66 (by omega) (by omega) (by omega)]; exact e2) hid (by omega) (fun u hu hf => hC m3 u hu (by omega) (by omega)) (fun X2 R2 x y20 yi2 yb2 ya2 y32 y32i tX2 kX2 hR tR kR hx hx' z => ?_)
  have z1 : ¬ 0 ≤ v.i 18 := fun q => z (by rw [iE 18 (by decide)]; exact q)
  have zw : ¬ 0 ≤ w.i 18 := fun q => z1 (v3.1.2 (by rw [xw 18 (by omega) (by omega) (by omega)]; exact q))
  obtain ⟨W, hW⟩ : ∃ W, W = R2.setI 75 x := ⟨_, rfl⟩
  have W75 : W.i 75 = x := by rw [hW]; rfl
  have Wa : W.a = R2.a := by rw [hW]; rfl
  have kW : KP t s W := by rw [hW]; exact kR.i75 x
  have tbW : TBL R2 W := by rw [hW]; exact TBL.i75 R2 x
  have r0 : ENDR id E W := by
    refine ⟨fun j q1 q2 q3 => ?_, fun k q1 q2 q3 q4 => ?_, fun j hj => ?_⟩
    · rw [hW]; exact (if_neg q2).trans (by rw [hR.1]; exact yi2 j q1)
    · rw [Wa, hR.2.2.1 k q2 q3 q4]; exact ya2 k q1
    · rw [Wa, hR.2.2.1 32 (by decide) (by decide) (by decide)]; exact y32 j hj
  have W32 : gv W 32 id = cdI E := by unfold gv; rw [Wa, hR.2.2.1 32 (by decide) (by decide) (by decide), y32i]; rfl
  rw [← hW]
  clear hW
  have cdW : cdI W = cdI E := by unfold cdI; rw [r0.1 20 (by decide) (by decide) (by decide)]
  have trW : trI W = trI E := by unfold trI; rw [r0.1 29 (by decide) (by decide) (by decide)]
  have slW : slI W = slI E := by unfold slI; rw [r0.1 42 (by decide) (by decide) (by decide)]
  have gW : goI W = goI E := by unfold goI; rw [r0.1 43 (by decide) (by decide) (by decide)]
  have nvs := v1.2.2.2.2.2.2.2.2.2.2.1
  have latX : LAT (ZT id CL) s w X := by
    refine ⟨⟨by omega, by omega, by omega, by rw [xw 3 (by omega) (by omega) (by omega)]; exact Int.le_refl _, fun k _ _ => ⟨by rw [xaw 21 (by decide)], fun _ => ⟨by rw [xaw 23 (by decide)], fun _ => by rw [xaw 22 (by decide)]⟩⟩, fun k _ _ => ⟨by rw [xaw 26 (by decide)], by rw [xaw 28 (by decide)], fun _ => by rw [xaw 27 (by decide)]⟩, fun k _ _ q => ⟨by rw [xaw 30 (by decide)], by rw [x31 k (fun y => q (Or.inl ⟨rfl, y⟩)), l1.1, ya], by rw [xaw 32 (by decide)]⟩, fun k _ _ => ⟨by rw [xaw 35 (by decide)], by rw [xaw 36 (by decide)], fun _ => by rw [xaw 37 (by decide)]⟩⟩, fun k _ _ ho => ?_, by omega, by omega, fun j _ => gv_of (xaw 36 (by decide)) j, fun j j1 j2 => by omega⟩
    obtain ⟨γ, b, M, y1, y2, y3⟩ := ho
    have ehd : hd X b γ = hd w b γ := by
      cases b
      · exact gv_of (xaw 49 (by decide)) γ
      · exact gv_of (xaw 48 (by decide)) γ
    rw [ehd] at y2
    exact ⟨γ, b, M, by omega, y2.of (fun y _ => ⟨by rw [xaw 21 (by decide)], by rw [xaw 22 (by decide)]⟩), y3⟩
  have lat1 : LAT (ZT id CL) s w W := (latX.kp kXE tX.1.1 (by omega)).endr r0 (fun k _ _ q y => q (Or.inl ⟨rfl, y⟩))
  have lat2 : LAT noZ X v W := ((LAT.rf noZ X v).kp kvE v1.tn (by omega)).endr r0 (fun k q1 _ _ y => by omega)
  have kgE := kXE.2.2.2.2.2.2.1
  have kgv := kvE.2.2.2.2.2.2.1
  have e44 : ∀ γ : Nat, (γ : Int) < goI s → W.a 44 γ = v.a 44 γ ∧ W.a 47 γ = v.a 47 γ := fun γ hγ => ⟨by rw [r0.2.1 44 (by decide) (by decide) (by decide) (by decide), aE 44 (by decide) (by decide) (by decide)], by rw [r0.2.1 47 (by decide) (by decide) (by decide) (by decide), aE 47 (by decide) (by decide) (by decide)]⟩
  have e44w : ∀ γ : Nat, (γ : Int) < goI s → W.a 44 γ = w.a 44 γ ∧ W.a 47 γ = w.a 47 γ := fun γ hγ => ⟨by rw [r0.2.1 44 (by decide) (by decide) (by decide) (by decide), kgE.2.1 γ (by omega), xaw 44 (by decide)], by rw [r0.2.1 47 (by decide) (by decide) (by decide) (by decide), kgE.2.2.1 γ (by omega), xaw 47 (by decide)]⟩
  have siteW : ∀ (A : RS) (γ : Nat) (b : Bool) (k : Nat), SITE A E γ b k → SITE A W γ b k := fun A γ b k hs => by
    obtain ⟨q1, M, q2, q3⟩ := hs
    have ehd : hd W b γ = hd E b γ := by
      cases b
      · exact r0.g (k := 49) (by decide) (by decide) (by decide) (by decide) γ
      · exact r0.g (k := 48) (by decide) (by decide) (by decide) (by decide) γ
    exact ⟨q1, M, by rw [ehd]; exact q2.of (fun y _ => ⟨by rw [r0.2.1 21 (by decide) (by decide) (by decide) (by decide)], by rw [r0.2.1 22 (by decide) (by decide) (by decide) (by decide)]⟩), q3⟩
  have siteX : ∀ (γ : Nat) (b : Bool) (k : Nat), SITE s w γ b k → SITE s X γ b k := fun γ b k hs => by
    obtain ⟨q1, M, q2, q3⟩ := hs
    have ehd : hd X b γ = hd w b γ := by
      cases b
      · exact gv_of (xaw 49 (by decide)) γ
      · exact gv_of (xaw 48 (by decide)) γ
    exact ⟨q1, M, by rw [ehd]; exact q2.of (fun y _ => ⟨by rw [xaw 21 (by decide)], by rw [xaw 22 (by decide)]⟩), q3⟩
  have W31 : gv W 31 id = cdI X := by
    rw [r0.g (by decide) (by decide) (by decide) (by decide)]
    unfold gv
    rw [kXE.2.2.2.1.2.2.1 id (by omega), x31i, ← xi]
    rfl
  have peX2 : peI X2 = peI E := by unfold peI; rw [yi2 59 (by decide)]
  have waX2 : waI X2 = waI s := by unfold waI; rw [yi2 56 (by decide), iE 56 (by decide), v4.2.2.2, X56]
  have kqE := kXE.2.2.2.2.2.2.2.2.2.1
  have hn57 : 0 < waI X2 → ¬ X2.a 57 (waI X2 - 1).toNat = E.a 66 t := fun q y => by
    have kwE := ksE.2.2.2.2.2.2.2.2.1
    have es : X2.a 57 (waI X2 - 1).toNat = s.a 57 (waI X2 - 1).toNat := by rw [ya2 57 (by decide), kwE.2.1 _ (by omega)]
    have t8 := (hI.2.2.2.1.2.2.2.2.2.2.2.2.1 (waI X2 - 1).toNat (by omega)).2.1
    have e66 : (E.a 66 t).toInt = (id : Int) := by rw [aE 66 (by decide) (by decide) (by decide), lv 66 (by omega) (by omega) (by omega)]; exact e2
    unfold gv at t8
    rw [← es, y, e66] at t8
    omega
  have ew : (waI w - 1).toNat = (waI s).toNat := by rw [b4]; congr 1; omega
  have hd9 : deI X ≤ 250 := by have := iX.2.2.2.2.2.2.2.2.2.2.2.2.1; have := iX.2.2.2.2.1; omega
  have dX : deI X = deI s + 1 := by
    have des := ns.2.2.2.2.2.2.2.2.1
    have h0 : 0 ≤ (s.i 52).toInt := des.1
    have h4 : 4 * (s.i 52).toInt ≤ fr s + 2 * op s + 2 := des.2
    unfold deI
    rw [xw 52 (by omega) (by omega) (by omega), b3, toInt_add] <;> rw [i1] <;> omega
  refine TS.try (ps := decide (v.i 75 = 1)) (ek := decide (x = 1)) hI (k1 zw) a3 f1 f2 f3 h1 h2 hid g1 ?_ g4 lat1 (by omega) gus e44w (fun γ b k hγ hs => siteW s γ b k ((siteX γ b k hs).kp kXE tX.1.1 (by omega))) kW (by omega) (by omega) (fun hr => ⟨fun _ q => ?_, fun q => by omega⟩) (fun q γ b hγ ha => ?_) ?_
  · have e30 : gv W 30 id = gv w 30 id := by
      rw [r0.g (by decide) (by decide) (by decide) (by decide)]
      unfold gv
      rw [kXE.2.2.2.1.2.1 id (by omega), xaw 30 (by decide)]
    rw [e30]
    refine g3.of (fun j hj => ?_)
    rw [r0.g (by decide) (by decide) (by decide) (by decide)]
    unfold gv
    rw [kXE.2.2.2.2.1.2.2.2.2.1 j (by have := (g4 j hj).2.1; omega), xaw 37 (by decide)]
  · have q : v.i 75 = 1 := of_decide_eq_true q
    refine decide_eq_true (hx'.mpr ⟨E75.trans q, ?_⟩)
    rw [aE 68 (by decide) (by decide) (by decide), lv 68 (by omega) (by omega) (by omega)]; exact hr
  · have q : v.i 75 = 1 := of_decide_eq_true (q (by omega))
    rw [E75.trans q] at hR
    have := ARV.rsv (u := w) hR (by rw [aE 66 (by decide) (by decide) (by decide), lv 66 (by omega) (by omega) (by omega)]; exact e2) a1.2.2.2.1 (by rw [ew]; exact c1) (by omega) (by omega) (by have := kqE.1; omega) (fun j hj => by rw [ya2 60 (by decide), kqE.2.1 j (by omega), xaw 60 (by decide)]) (fun j hj => by rw [ya2 61 (by decide), kqE.2.2.1 j (by omega), xaw 61 (by decide)]) (fun j hj => by rw [ya2 62 (by decide), kqE.2.2.2 j (by omega), xaw 62 (by decide)]) (fun γ hγ' y => by rw [ya2 50 (by decide)]; exact kgE.2.2.2.1 γ (by omega) (by rw [xaw 50 (by decide)]; exact y)) (fun γ hγ' y => by rw [ya2 51 (by decide)]; exact kgE.2.2.2.2.1 γ (by omega) (by rw [xaw 51 (by decide)]; exact y)) (by omega) ha
    exact this.tbs tbW.tbs
  · refine FINP.blk hI (v10 z1) kX v3 v4 v1 lat2 (by omega) ?_ W31 (by omega) (by omega) ((xw 38 (by omega) (by omega) (by omega)).trans b5) dX (by omega) (by omega) (by omega) fXf.2 hd9 (by omega) (by omega) e44 (fun γ b k hγ hs => siteW s γ b k ?_) (fun γ b hγ ha => ?_) (fun q => decide_eq_true q) (fun q => by rw [W75]; exact of_decide_eq_true q)
    · rw [r0.2.1 21 (by decide) (by decide) (by decide) (by decide)]; exact E21
    · have hs' : SITE s v γ b k := ⟨by have := hs.1; have := kX.2.1.1; omega, hs.2⟩
      exact hs'.kp kvE v1.tn (by omega)
    · have h1' : ARV E γ b := ha.kp kvE (by unfold waI; rw [iE 56 (by decide)]) (by omega)
      have h2' : ARV X2 γ b := by
        have es : waI X2 = waI E := by unfold waI; rw [yi2 56 (by decide)]
        rcases h1' with y | ⟨p, y1, y2, y3, y4, y5⟩
        · left; rw [ya2 _ (by cases b <;> decide)]; exact y
        · exact Or.inr ⟨p, by omega, by rw [gv_of (ya2 60 (by decide))]; exact y2, by rw [ya2 61 (by decide)]; exact y3, by omega, by rw [gv_of (ya2 62 (by decide)), gv_of (ya2 57 (by decide)), es]; exact y5⟩
      exact (ARV.rsv0 hR hn57 h2').tbs tbW.tbs
