/-! reading: do: its frame -/
theorem DO1 {N b : Nat} (hN : 4000 ≤ N) (hc' : 1 ≤ b → RUNE N 20 1 20 15 (b - 1)) {m : Nat} {s B2 v2 : RS} {t γ0 : Nat} {P : RS → Prop} (hI : INV s) (h9 : t < 998) (hb : 2 * (t : Int) ≤ fr s + 12 * op s + 2) (hc : 900 - fr s ≤ b) (hF : ∀ u, FS' s u → P u) (kB : KP t s B2) (cB : cdI B2 = cdI s + 2) (B21 : B2.a 21 (cdI s).toNat = 1) (B21' : B2.a 21 (cdI s + 1).toNat = 1) (B38 : B2.i 38 = s.i 38) (B19 : B2.i 19 = s.i 19) (B52 : B2.i 52 = s.i 52) (B56 : B2.i 56 = s.i 56) (fB : fr s + 2 ≤ fr B2) (tkB : tkI s ≤ tkI B2) (g0 : (γ0 : Int) = goI s) (gB : goI B2 = goI s + 1) (B44 : B2.a 44 γ0 = 0) (B47 : gv B2 47 γ0 = deI s) (bB : ∀ b : Bool, hd B2 b γ0 = -1) (raB : RATE s B2) (B64 : B2.a 64 t = 11) (B66 : (B2.a 66 t).toInt = cdI s + 1) (B68 : (B2.a 68 t).toInt = γ0) (hv2 : PCS t 1 B2 v2) (hn : 36000 + 10 ≤ (m : Int) + 1 + 40 * fr v2) (hC : ∀ (m' : Nat) (u : RS), PS t s u → fr v2 ≤ fr u → (m : Int) + 40 * fr v2 ≤ m' + 40 * fr u → ok (f_X12_parse_10 N m' u) P) : ok (f_X12_parse_10 N (m + 1) v2) P := by
  have hN1 : 1000 ≤ N := by omega
  obtain ⟨w1, w2, w3, w4, w5, w6, w7, w8, w9, w10, w11⟩ := id hv2
  have t2 := w1.2.2.2.1
  have cs := hI.cd
  have hf := hI.1.f0
  have gos := hI.2.2.2.2.2.2.2.2.2.2.2.1
  have c2' := w1.cd
  have f2 := w1.1.f0
  have le2 := w3.2.1.1
  have hop := hI.op
  have g2 : goI v2 = (γ0 : Int) + 1 := by have := w4.go; omega
  have e68 : (v2.a 68 t).toInt = γ0 := by rw [w11 68 (by omega) (by omega) (by omega)]; exact B68
  have n68 := k_nat e68
  have ib68 : ib (v2.a 68 t) 460 := ⟨by omega, by omega⟩
  obtain ⟨Lc, c1, lc⟩ := w1.tn γ0 false (by omega)
  obtain ⟨Lb, b1, lb⟩ := w1.tn γ0 true (by omega)
  have dj := t2.1.2.1
  have gec : ∀ k ∈ Lc, cdI B2 ≤ (k : Int) := fun k hk => (new_sites w3 bB (by omega) c1 k hk).1
  refine lp_11 w2 (by omega) w1.2.2.1 ((w11 64 (by omega) (by omega) (by omega)).trans B64) ?_
  unfold f_X12_repeats
  rw [if_pos (tp_ib w2 (by omega)), tp_nat w2, if_neg (by rw [w10]; decide), if_pos w10, if_pos ib68, n68]
  have ePT := p_pt (N := N) hN (σ := v2) (site := v2.a 49 γ0) (w := v2.i 20) c1 (fun x hx => by have := lc x hx; omega)
  rw [ePT]
  obtain ⟨Q, hQ⟩ : ∃ Q, Q = PT (v2.i 20) Lc v2 := ⟨_, rfl⟩
  have iQ : Q.i = v2.i := by rw [hQ]; exact PT.eI
  have aQ : ∀ k : Nat, k ≠ 22 → Q.a k = v2.a k := fun k hk => by rw [hQ]; exact PT.eA hk
  have Q22 : ∀ j : Nat, Q.a 22 j = if j ∈ Lc then v2.i 20 else v2.a 22 j := fun j => by rw [hQ]; exact PT.e22 j
  have bQ : Q.b = v2.b := by rw [hQ]; exact PT.eB
  show ok ((if ((PT (v2.i 20) Lc v2).i 75) = 0 then (if ((PT (v2.i 20) Lc v2).a 51 γ0) = 0 then f_X12_repeats_114 N (RS.setA (PT (v2.i 20) Lc v2) 67 t 0) (v2.i 63) (v2.a 68 t) else f_X12_repeats_114 N (RS.setA (PT (v2.i 20) Lc v2) 67 t 1) (v2.i 63) (v2.a 68 t)) else f_X12_repeats_114 N (RS.setA (PT (v2.i 20) Lc v2) 67 t 1) (v2.i 63) (v2.a 68 t) : Option RS).bind fun p => f_X12_parse_10 N m p) P
  rw [← hQ]
  clear hQ ePT
  have s67 : ∃ f67 : Int32, ((if (Q.i 75) = 0 then (if (Q.a 51 γ0) = 0 then f_X12_repeats_114 N (RS.setA Q 67 t 0) (v2.i 63) (v2.a 68 t) else f_X12_repeats_114 N (RS.setA Q 67 t 1) (v2.i 63) (v2.a 68 t)) else f_X12_repeats_114 N (RS.setA Q 67 t 1) (v2.i 63) (v2.a 68 t)) : Option RS) = f_X12_repeats_114 N (RS.setA Q 67 t f67) (v2.i 63) (v2.a 68 t) ∧ (f67 = 1 ∧ (v2.i 75 = 1 ∨ ¬ v2.a 51 γ0 = 0) ∨ f67 = 0 ∧ v2.i 75 = 0 ∧ v2.a 51 γ0 = 0) := by
    rw [iQ, aQ 51 (by decide)]
    rcases w1.r with r | r
    · rw [if_pos r]
      by_cases q : v2.a 51 γ0 = 0
      · rw [if_pos q]; exact ⟨0, rfl, Or.inr ⟨rfl, r, q⟩⟩
      · rw [if_neg q]; exact ⟨1, rfl, Or.inl ⟨rfl, Or.inr q⟩⟩
    · rw [if_neg (by rw [r]; decide)]; exact ⟨1, rfl, Or.inl ⟨rfl, Or.inl r⟩⟩
  obtain ⟨f67, e67, h67⟩ := s67
  rw [e67]
  unfold f_X12_repeats_114
  have a50 : (RS.setA Q 67 t f67).a 50 = v2.a 50 := (setA_nk (by decide)).trans (aQ 50 (by decide))
  rw [if_pos ib68, n68, a50, if_pos (tp_ib w2 (by omega)), if_pos (tp_ib w2 (by omega)), tp_nat w2]
  have s72 : ∃ f72 : Int32, ((if (v2.a 50 γ0) = 0 then f_X12_repeats_134 N (RS.setA (RS.setA Q 67 t f67) 72 t 0) (v2.i 63) (v2.a 68 t) else f_X12_repeats_134 N (RS.setA (RS.setA Q 67 t f67) 72 t 1) (v2.i 63) (v2.a 68 t)) : Option RS) = f_X12_repeats_134 N (RS.setA (RS.setA Q 67 t f67) 72 t f72) (v2.i 63) (v2.a 68 t) ∧ (f72 = 1 ∨ f72 = 0 ∧ v2.a 50 γ0 = 0) := by
    by_cases q : v2.a 50 γ0 = 0
    · rw [if_pos q]; exact ⟨0, rfl, Or.inr ⟨rfl, q⟩⟩
    · rw [if_neg q]; exact ⟨1, rfl, Or.inl rfl⟩
  obtain ⟨f72, e72, h72⟩ := s72
  rw [e72]
  unfold f_X12_repeats_134
  rw [if_pos ib68, if_pos (tp_ib w2 (by omega)), n68, tp_nat w2]
  obtain ⟨X, hX⟩ : ∃ X, X = (RS.setA (RS.setA Q 67 t f67) 72 t f72).setA 70 t ((RS.setA (RS.setA Q 67 t f67) 72 t f72).a 48 γ0) := ⟨_, rfl⟩
  have iX : X.i = v2.i := by rw [hX]; exact iQ
  have aX : ∀ k : Nat, k ≠ 22 → k ≠ 67 → k ≠ 70 → k ≠ 72 → X.a k = v2.a k := fun k h1 h2 h3 h4 => by rw [hX, setA_nk h3, setA_nk h4, setA_nk h2]; exact aQ k h1
  have X22 : ∀ j : Nat, X.a 22 j = if j ∈ Lc then v2.i 20 else v2.a 22 j := fun j => by rw [hX, setA_nk (by decide), setA_nk (by decide), setA_nk (by decide)]; exact Q22 j
  have X67 : X.a 67 t = f67 := by rw [hX, setA_nk (by decide), setA_nk (by decide)]; exact setA_at
  have X72 : X.a 72 t = f72 := by rw [hX, setA_nk (by decide)]; exact setA_at
  have X70 : X.a 70 t = v2.a 48 γ0 := by rw [hX, setA_at, setA_nk (by decide), setA_nk (by decide), aQ 48 (by decide)]
  have bX : X.b = v2.b := by rw [hX]; exact bQ
  have frX : ∀ k : Nat, 64 ≤ k → k ≤ 73 → bel k t v2 X := fun k h1 h2 j hj => by rw [hX, setA_ne (by omega), setA_ne (by omega), setA_ne (by omega), aQ k (by omega)]
  have e43 : (RS.setA (RS.setA Q 67 t f67) 72 t f72).i 43 = v2.i 43 := by show Q.i 43 = _; rw [iQ]
  rw [e43, ← hX]
  clear hX
  obtain ⟨Y, hY⟩ : ∃ Y, Y = X.setI 43 (v2.i 43 - 1) := ⟨_, rfl⟩
  have iY : ∀ j : Nat, j ≠ 43 → Y.i j = v2.i j := fun j hj => by rw [hY]; exact (if_neg hj).trans (by rw [iX])
  have aY : Y.a = X.a := by rw [hY]; rfl
  have bY : Y.b = v2.b := by rw [hY]; exact bX
  have gY : goI Y = γ0 := by
    have e : Y.i 43 = v2.i 43 - 1 := by rw [hY]; rfl
    have e1' : (1 : Int32).toInt = 1 := by decide
    have g2' : (v2.i 43).toInt = (γ0 : Int) + 1 := g2
    unfold goI
    rw [e, toInt_sub] <;> rw [e1'] <;> omega
  rw [← hY]
  clear hY
  have cY : cdI Y = cdI v2 := by unfold cdI; rw [iY 20 (by decide)]
  have eqY : EQT v2 Y := ⟨fun k h1 h2 => by rw [aY]; exact aX k (by omega) (by omega) (by omega) (by omega), by rw [bY], fun j h1 h2 h3 h4 h5 h6 => iY j h3⟩
  have chY : CHN v2 Y := fun γ b L x hγ hI' hx' => by
    refine ⟨by rw [aY, aX 21 (by decide) (by decide) (by decide) (by decide)], ?_⟩
    rw [aY, X22, if_neg (fun q => ?_)]
    have := (dj γ γ0 b false L Lc x (by omega) (by omega) hI' c1 hx' q).1; omega
  have ksv2 : KP t s v2 := kB.tr w3 (Nat.le_refl _)
  have seY : seI Y = seI v2 := by unfold seI; rw [iY 38 (by decide)]
  have kY : KP t s Y := ksv2.fin eqY chY (by omega) (by omega) (by have := ksv2.2.2.2.2.2.1.1; omega) (fun z => by rw [iY 18 (by decide)]; exact z) (fun k hk => ⟨by rw [aY, aX 21 (by decide) (by decide) (by decide) (by decide)], by rw [aY, X22, if_neg (fun q => by have := gec k q; omega)], by rw [aY, aX 23 (by decide) (by decide) (by decide) (by decide)]⟩) (fun k h1 h2 j hj => by rw [aY]; exact frX k h1 h2 j hj)
  have r75 : Y.i 75 = 0 ∨ Y.i 75 = 1 := by rw [iY 75 (by decide)]; exact w1.r
  have kw := ksv2.2.2.2.2.2.2.2.2.1
  have e56v : waI v2 = waI s := by have : waI v2 = waI B2 := w4.wa; have : waI B2 = waI s := by { unfold waI; rw [B56] }; omega
  have tY : TAB Y := t2.fin eqY chY (by omega) (by omega) (by omega) (fun γ hγ => by
    have : deI Y = deI v2 := by unfold deI; rw [iY 52 (by decide)]
    have := (t2.2.2.2.2.2.2.1 γ (by omega)).2
    omega) (fun w hw => by
    have := (hI.2.2.2.1.2.2.2.2.2.2.2.2.1 w (by omega)).2.2.2
    have e : gv v2 58 w = gv s 58 w := by unfold gv; rw [kw.2.2 w (by omega)]
    omega) r75
  have lY : LXI Y := w1.1.of (iY 2 (by decide)) (iY 10 (by decide)) (iY 11 (by decide)) (iY 12 (by decide)) (iY 14 (by decide)) (by rw [bY])
  have fY : fr Y = fr v2 := by unfold fr; rw [iY 11 (by decide)]
  have tkY : tkI Y = tkI v2 := by unfold tkI; rw [iY 17 (by decide)]
  have iYI : INV Y := by
    refine ⟨lY, hI.2.1.kp kY, (iY 15 (by decide)).trans w1.2.2.1, tY, ?_⟩
    have nn := w1.2.2.2.2
    have e1 : op Y = op v2 := by unfold op; rw [iY 19 (by decide)]
    have e8 : deI Y = deI v2 := by unfold deI; rw [iY 52 (by decide)]
    unfold NUM at nn ⊢
    rw [cY, eqY.en, eqY.tt, eqY.ca, seY, eqY.sl, gY, eqY.wa, eqY.pe, fY, tkY, e1, e8]
    omega
  have tpY : tpI Y = t := by unfold tpI at *; rw [iY 63 (by decide)]; exact w2
  obtain ⟨Z0, eZ, z1, z2⟩ := NDO hN1 iYI 415 (by decide)
  rw [eZ]
  obtain ⟨Z, hZ⟩ : ∃ Z, Z = Z0.2 := ⟨_, rfl⟩
  show ok (((f_X12_open N Z0.2 40).bind fun p23 => (if (p23.2.i 10) = 432 then f_X12_repeats_195 N (RS.setA p23.2 69 t (p23.2.i 17)) else f_X12_repeats_195 N (RS.setA p23.2 69 t 0))).bind fun p => f_X12_parse_10 N m p) P
  rw [← hZ] at z1 z2 ⊢
  clear hZ eZ
  have flt : ∀ S : RS, LX Z S → ¬ S.i 15 = 0 → ok ((if (S.i 10) = 432 then f_X12_repeats_195 N (RS.setA S 69 t (S.i 17)) else f_X12_repeats_195 N (RS.setA S 69 t 0) : Option RS).bind fun p => f_X12_parse_10 N m p) P := fun S h1 h2 => by
    have hS : FS' s S := FS'.of (kY.lx z1).1.1 h1 h2 (by rw [z1.2.2.1 75 (by omega) (by omega)]; exact r75)
    have tpS : tpI S = t := h1.tp.trans (z1.tp.trans tpY)
    have go : ∀ y : Int32, ok ((f_X12_repeats_195 N (RS.setA S 69 t y)).bind fun p => f_X12_parse_10 N m p) P := fun y => by
      unfold f_X12_repeats_195
      rw [p_th 2 20 (u := S.setA 69 t y) tpS (by omega)]
      exact lp_f (u := TH (S.setA 69 t y) t 2 20) h2 (hF _ (FS'.th (hS.loc t y (by omega) (by omega)))) (by omega)
    by_cases c : S.i 10 = 432
    · rw [if_pos c]; exact go _
    · rw [if_neg c]; exact go _
  rcases z2 with z2 | ⟨z2, z3, z4, z5, z6, z7⟩
  · obtain ⟨S, eS, o1, -, -⟩ := p_op hN1 z1.2.2.2.1 40 (by decide)
    rw [eS]
    exact flt S.2 o1 (fun q => z2 (o1.2.2.2.2.1 q))
  obtain ⟨p, ep, hpp⟩ := OPO (t := t) hN1 z4 40 (by decide)
  rw [ep]
  rcases hpp with ⟨p1, p2, p3⟩ | ⟨p1, p2, p3, q1, q2, q3, q4, q5, q6, q7, q8, q9, q10, q11⟩
  · exact flt p.2 p2 p1
  have s69 : ∃ y : Int32, ((if (p.2.i 10) = 432 then f_X12_repeats_195 N (RS.setA p.2 69 t (p.2.i 17)) else f_X12_repeats_195 N (RS.setA p.2 69 t 0)) : Option RS) = f_X12_repeats_195 N (RS.setA p.2 69 t y) ∧ (y = 0 ∨ p.2.i 10 = 432 ∧ y = p.2.i 17) := by
    by_cases c : p.2.i 10 = 432
    · rw [if_pos c]; exact ⟨_, rfl, Or.inr ⟨c, rfl⟩⟩
    · rw [if_neg c]; exact ⟨_, rfl, Or.inl rfl⟩
  obtain ⟨y, ey, hy⟩ := s69
  show ok (((if (p.2.i 10) = 432 then f_X12_repeats_195 N (RS.setA p.2 69 t (p.2.i 17)) else f_X12_repeats_195 N (RS.setA p.2 69 t 0)) : Option RS).bind fun p => f_X12_parse_10 N m p) P
  rw [ey]
  unfold f_X12_repeats_195
  obtain ⟨A, hA⟩ : ∃ A, A = p.2.setA 69 t y := ⟨_, rfl⟩
  have iAI : INV A := by rw [hA]; exact q1.loc t y (by omega) (by omega)
  have kA : KP t s A := by rw [hA]; exact ((kY.lx z1).tr q3 (Nat.le_refl _)).loc t y (by omega) (by omega) (Nat.le_refl _)
  have iiA : A.i = p.2.i := by rw [hA]; rfl
  have aA : ∀ k : Nat, k ≠ 69 → A.a k = X.a k := fun k hk => by rw [hA, setA_nk hk, q10, z1.1, aY]
  have A69 : A.a 69 t = y := by rw [hA]; exact setA_at
  have bA : A.b 9 = v2.b 9 := by rw [hA]; show p.2.b 9 = _; rw [q11.2.1, z1.2.1, bY]
  have tpA : tpI A = t := by unfold tpI; rw [iiA]; exact q2.trans (z1.tp.trans tpY)
  rw [← hA, p_th 2 20 tpA (by omega)]
  clear hA
  show ok (f_X12_parse_10 N m (TH A t 2 20)) P
  have fA : fr A = fr p.2 := by unfold fr; rw [iiA]
  have oA : op A = op s + 1 := by
    have e1 : op A = op p.2 := by unfold op; rw [iiA]
    have e2 : op Z = op Y := by unfold op; rw [z5]
    have e3 : op Y = op v2 := by unfold op; rw [iY 19 (by decide)]
    have e4 : op v2 = op B2 := w4.eOp
    have e5 : op B2 = op s := by unfold op; rw [B19]
    omega
  have fAf := iAI.1.f0
  refine CALL (hc' (by omega)) iAI tpA (by omega) (by omega) (by omega) (by omega) (fun u hu => hF u (FS'.kp kA hu)) (fun m4 v3 hv3 hm4 => ?_)
  have f3 := hv3.1.1.f0
  have v7 := hv3.2.2.2.2.2.2.1
  obtain ⟨m5, rfl⟩ : ∃ m5, m4 = m5 + 1 := ⟨m4 - 1, by omega⟩
  have push5 : ((m5 + 1 : Nat) : Int) = (m5 : Int) + 1 := by omega
  rw [push5] at hm4
  have tkA : tkI A = tkI p.2 := by unfold tkI; rw [iiA]
  refine DO2 (m := m5) (xA := v2.i 20) (fv := y) hN hI h9 (by omega) hF kB cB B21 B21' B38 B19 B52 B56 fB tkB g0 gB B44 B47 bB raB hv2 c1 b1 kA (fun k h1 h2 => by rw [aA k (by omega)]; exact aX k h1 (by omega) (by omega) (by omega)) bA (fun k => by rw [aA 22 (by decide)]; exact X22 k) rfl (fun j h1 h2 h3 => ?_) ?_ iAI ?_ (by omega) ⟨by omega, by omega⟩ (fun k hk => by rw [aA k (by omega)]; exact aX k (by omega) (by omega) (by omega) (by omega)) ?_ ?_ ?_ ?_ ?_ A69 ?_ hv3 (fun W hW hfW => hC m5 W hW (by omega) (by omega))
  · rw [iiA, q11.2.2.1 j h1 h2, z1.2.2.1 j h1 h2]; exact iY j h3
  · have e1 : goI A = goI Z := by unfold goI; rw [iiA, q11.2.2.1 43 (by omega) (by omega)]
    have e2 : goI Z = goI Y := by unfold goI; rw [z1.2.2.1 43 (by omega) (by omega)]
    omega
  · rw [iiA, q5, z5, iY 19 (by decide), w4.1, B19]
  · rw [aA 64 (by decide), aX 64 (by decide) (by decide) (by decide) (by decide), w11 64 (by omega) (by omega) (by omega)]; exact B64
  · rw [aA 66 (by decide), aX 66 (by decide) (by decide) (by decide) (by decide), w11 66 (by omega) (by omega) (by omega)]; exact B66
  · rw [aA 67 (by decide), X67]; exact h67
  · rw [aA 70 (by decide)]; exact X70
  · rw [aA 72 (by decide), X72]; exact h72
  · rw [iiA]; exact hy
theorem run_do {N b : Nat} (hN : 4000 ≤ N) (hc' : 1 ≤ b → RUNE N 20 1 20 15 (b - 1)) (hs : 1 ≤ b → RUNS N (b - 1)) : RUNU N b 11 (fun x => x = 416) := by
  intro n s u t P hI hp ht hu tu u15 hT hz h9 hb hc hn n1 hF hC
  have hN1 : 1000 ≤ N := by omega
  have hf := hI.1.f0
  have cs := hI.cd
  have gos := hI.2.2.2.2.2.2.2.2.2.2.2.1
  refine lp_11 tu (by omega) u15 hu.2.2.2.2.2.2.1 ?_
  unfold f_X12_repeats
  rw [if_pos (tp_ib tu (by omega)), tp_nat tu, if_pos hu.2.2.2.2.2.2.2.1]
  obtain ⟨R, eR, hR, xR⟩ := STA hN1 hI ht hz hu
  have mR := hR.mm
  obtain ⟨r1, r2, r3, r4, r5, r6, r7, r8, r9, r10, r11, r12, r13, r14⟩ := hR
  have r13 := r13 (by rw [hT]; decide)
  rw [eR]
  have cR := r1.cd
  show ok (((f_X12_emit N R 1 0).bind fun p5 => (f_X12_loopGoal N (RS.setA p5.2 66 t p5.1)).bind fun p7 => (f_X12_body N (RS.setA p7.2 68 t p7.1) 1).bind fun p9 => some p9).bind fun p => f_X12_parse_10 N n p) P
  rw [p_em 1 0 cR.1 cR.2.2]
  show ok (((f_X12_loopGoal N ((EM R 1 0).setA 66 t (R.i 20))).bind fun p7 => (f_X12_body N (RS.setA p7.2 68 t p7.1) 1).bind fun p9 => some p9).bind fun p => f_X12_parse_10 N n p) P
  obtain ⟨U, hU⟩ : ∃ U, U = (EM R 1 0).setA 66 t (R.i 20) := ⟨_, rfl⟩
  have mU : MM t s U := by rw [hU]; exact (mR.em hI (by omega)).loc _ (by omega) (by omega)
  have U21 : ∀ j : Nat, U.a 21 j = if j = (cdI R).toNat then 1 else R.a 21 j := fun j => by rw [hU, setA_nk (by decide), EM.a21]
  have U66 : (U.a 66 t).toInt = cdI R := by rw [hU, setA_at]; rfl
  have aU : ∀ k : Nat, k ≠ 21 → k ≠ 22 → k ≠ 23 → k ≠ 66 → U.a k = R.a k := fun k h1 h2 h3 h4 => by rw [hU, setA_nk h4, EM.a h1 h2 h3]
  have cU : cdI U = cdI s + 2 := by rw [hU]; exact (EM.cd (u := R) (o := 1) (x := 0) cR.1 cR.2.2).trans (by omega)
  have fU : fr U = fr R := by rw [hU]; rfl
  rw [← hU]
  clear hU
  have gU : goI U = goI s := mU.2.2.2.1.go
  have dU : deI U = deI s := mU.2.2.2.1.de
  have des := hI.2.2.2.2.2.2.2.2.2.2.2.2.1
  have gos4 : goI U < 460 := by omega
  obtain ⟨V, eV, hV⟩ := p_lg (N := N) hN1 (u := U) (by omega) gos4
  rw [eV]
  show ok (((f_X12_body N (RS.setA V 68 t (U.i 43)) 1).bind fun p23 => some p23).bind fun p => f_X12_parse_10 N n p) P
  have F1 := hV.f (t := t) (s := s) mU.2.2.1 mU.1.2.2.2.1 gos.1 gos4 (by omega)
  obtain ⟨γ0, hγ0⟩ : ∃ γ0, γ0 = (U.i 43).toNatClampNeg := ⟨_, rfl⟩
  rw [← hγ0] at F1
  obtain ⟨p1, p2, p3, p4, p5, p6, p7, p8, p9, p10, p11, p12, p13⟩ := id F1
  obtain ⟨B2, hB2⟩ : ∃ B2, B2 = V.setA 68 t (U.i 43) := ⟨_, rfl⟩
  have i2 : B2.i = V.i := by rw [hB2]; rfl
  have a2 : ∀ k : Nat, k ≠ 68 → B2.a k = V.a k := fun k hk => by rw [hB2]; exact setA_nk hk
  have a68 : B2.a 68 t = U.i 43 := by rw [hB2]; exact setA_at
  have k2 : KP t s B2 := by rw [hB2]; exact p12.loc t _ (by omega) (by omega) (Nat.le_refl _)
  have tb2 : TBL V B2 := by rw [hB2]; exact TBL.loc V t _ (by omega) (by omega)
  have b2 : B2.b = V.b := by rw [hB2]; rfl
  rw [← hB2]
  clear hB2
  have ib2 : ∀ j : Nat, j ≠ 43 → B2.i j = U.i j := fun j hj => by rw [i2]; exact p3 j hj
  have l2 : LXI B2 := mU.1.1.of (ib2 2 (by decide)) (ib2 10 (by decide)) (ib2 11 (by decide)) (ib2 12 (by decide)) (ib2 14 (by decide)) (by rw [b2]; exact p4)
  have t2 : tpI B2 = t := by unfold tpI; rw [ib2 63 (by decide)]; exact mU.2.1
  have r75 : B2.i 75 = 0 ∨ B2.i 75 = 1 := by rw [ib2 75 (by decide)]; exact mU.1.r
  rcases BODY (N := N) (u := B2) 1 l2 t2 h9 with ⟨S, eS, y1, y2⟩ | ⟨eS, y1⟩
  · rw [eS]
    exact lp_f y2 (hF S (FS'.of k2.1.1 y1 y2 r75)) n1
  rw [eS]
  show ok (f_X12_parse_10 N n (TH B2 t 1 2)) P
  have iV : INV V := inv_lgr mU.1 F1 (by omega)
  have iB2 : INV B2 := iV.tbl tb2 l2 y1 (by rw [i2]) (by rw [i2]) r75 (by unfold fr; rw [i2]; exact Int.le_refl _) (by have := iV.tk; unfold tkI fr at *; rw [i2]; exact this)
  have f2 : fr B2 = fr R := by have : fr B2 = fr U := by { unfold fr; rw [ib2 11 (by decide)] }; omega
  have kg := mU.2.2.1.2.2.2.2.2.2.1
  have b46U : bel 46 (goI s) s U := fun j _ => by rw [aU 46 (by decide) (by decide) (by decide) (by decide), r14 46 (by decide) (by decide) (by decide) (by decide)]
  have prl : PRL B2 := (PRS.lgr hp hV gU kg.2.1 b46U (by omega) gos4).tbl tb2
  have o2 : op B2 = op s := by
    have : op B2 = op U := by unfold op; rw [ib2 19 (by decide)]
    have := mU.2.2.2.1.eOp
    omega
  have f2f := iB2.1.f0
  refine CALLS (hs (by omega)) iB2 prl.prs t2 (by omega) (by omega) (by omega) (by omega) (fun u hu => hF u (FS'.kp k2 hu)) (fun m4 v2 hv2 hf2 hm4 => ?_)
  have fv2 := hv2.1.1.f0
  obtain ⟨m5, rfl⟩ : ∃ m5, m4 = m5 + 1 := ⟨m4 - 1, by omega⟩
  have push5 : ((m5 + 1 : Nat) : Int) = (m5 : Int) + 1 := by omega
  rw [push5] at hm4
  have a21 : ∀ j : Nat, B2.a 21 j = U.a 21 j := fun j => by rw [a2 21 (by decide), p5 21 (by omega)]
  have hdB : ∀ b : Bool, hd B2 b γ0 = -1 := fun b => by
    have : hd B2 b γ0 = hd V b γ0 := by
      unfold hd gv
      rw [a2 _ (by rcases bk_cases b with e | e <;> rw [e] <;> decide)]
    rw [this]; exact p9 b
  have ekR : (cdI s + 1).toNat = (cdI R).toNat := by rw [r9]
  refine DO1 (m := m5) (γ0 := γ0) hN hc' hI h9 hb hc hF k2 ?_ ?_ ?_ ?_ ?_ ?_ ?_ (by omega) ?_ (by omega) ?_ ?_ ?_ hdB ?_ ?_ ?_ ?_ hv2 (by omega) (fun m' u' hu' hf' hm' => hC m' u' hu' (by omega) (by omega))
  · have : cdI B2 = cdI U := by unfold cdI; rw [ib2 20 (by decide)]
    omega
  · rw [a21, U21, if_neg (by omega)]; exact r10
  · rw [a21, U21, if_pos ekR]
  · exact (ib2 38 (by decide)).trans mU.2.2.2.2.1
  · exact (ib2 19 (by decide)).trans mU.2.2.2.1.1
  · exact (ib2 52 (by decide)).trans mU.2.2.2.1.2.2.1
  · exact (ib2 56 (by decide)).trans mU.2.2.2.1.2.2.2
  · have := mU.2.2.2.2.2.2.2
    have e : tkI B2 = tkI U := by unfold tkI; rw [ib2 17 (by decide)]
    omega
  · have : goI B2 = goI V := by unfold goI; rw [i2]
    omega
  · rw [a2 44 (by decide)]; exact p7
  · unfold gv
    rw [a2 47 (by decide), p8]
    exact dU
  · exact mU.2.2.2.2.2.1.cg ib2
  · rw [a2 64 (by decide), p5 64 (by omega), aU 64 (by decide) (by decide) (by decide) (by decide)]; exact r11
  · rw [a2 66 (by decide), p5 66 (by omega), U66]; exact r9
  · rw [a68]
    show goI U = γ0
    omega
