/-! reading: labels and names: their frames -/
theorem NAM3 {N : Nat} (hN : 4000 ≤ N) {m : Nat} {s Z v : RS} {t γ0 : Nat} {P : RS → Prop} (hI : INV s) (h9 : t < 998) (kZ : KP t s Z) (cZ : cdI Z = cdI s) (Z38 : Z.i 38 = s.i 38) (Z19 : Z.i 19 = s.i 19) (Z52 : Z.i 52 = s.i 52) (Z56 : Z.i 56 = s.i 56) (fZ : fr s + 1 ≤ fr Z) (tkZ : tkI s ≤ tkI Z) (g0 : (γ0 : Int) = goI s) (gZ : goI Z = goI s + 1) (Z44 : Z.a 44 γ0 = 2) (Z47 : gv Z 47 γ0 = deI s) (hdZ : ∀ b : Bool, hd Z b γ0 = -1) (raZ : RATE s Z) (Z64 : Z.a 64 t = 5) (Z66 : (Z.a 66 t).toInt = γ0) (hv : PCS t 1 Z v) (hC : ∀ (u : RS), PS t s u → fr v ≤ fr u → ok (f_X12_parse_10 N m u) P) : ok (f_X12_parse_10 N (m + 1) v) P := by
  have hv' := hv
  obtain ⟨w1, w2, w3, w4, w5, w6, w7, w8, w9, w10, w11⟩ := hv'
  have fv := w1.1.f0
  have cw := w1.cd
  have cs := hI.cd
  have le2 := w3.2.1.1
  have hf := hI.1.f0
  have gos := hI.2.2.2.2.2.2.2.2.2.2.2.1
  have g2 : goI v = (γ0 : Int) + 1 := by have := w4.go; omega
  have e66 : (v.a 66 t).toInt = γ0 := by rw [w11 66 (by omega) (by omega) (by omega)]; exact Z66
  have n66 := k_nat e66
  refine lp_5 w2 (by omega) w1.2.2.1 ((w11 64 (by omega) (by omega) (by omega)).trans Z64) ?_
  unfold f_X12_named
  rw [if_pos (tp_ib w2 (by omega)), tp_nat w2, if_pos w10, if_pos (show ib (v.a 66 t) 460 from ⟨by omega, by omega⟩), n66]
  obtain ⟨Lb, b1, b2⟩ := w1.tn γ0 true (by omega)
  have e1 := p_pt (N := N) hN (σ := v) (site := v.a 48 γ0) (w := v.i 20) b1 (fun x hx => by have := b2 x hx; omega)
  obtain ⟨Q, hQ⟩ : ∃ Q, Q = PT (v.i 20) Lb v := ⟨_, rfl⟩
  have i1 : Q.i = v.i := by rw [hQ]; exact PT.eI
  have a1 : ∀ k : Nat, k ≠ 22 → Q.a k = v.a k := fun k hk => by rw [hQ]; exact PT.eA hk
  have a22 : ∀ j : Nat, Q.a 22 j = if j ∈ Lb then v.i 20 else v.a 22 j := fun j => by rw [hQ]; exact PT.e22 j
  have bb1 : Q.b = v.b := by rw [hQ]; exact PT.eB
  rw [← hQ] at e1
  clear hQ
  rw [e1]
  show ok ((if (Q.i 75) = 0 then (if (Q.a 50 γ0) = 0 then (f_X12_over N (RS.setI Q 43 ((Q.i 43) - 1)) 0).bind fun p51 => some p51 else (f_X12_over N (RS.setI Q 43 ((Q.i 43) - 1)) 1).bind fun p53 => some p53) else (f_X12_over N (RS.setI Q 43 ((Q.i 43) - 1)) 1).bind fun p48 => some p48 : Option RS).bind fun p => f_X12_parse_10 N m p) P
  rw [i1, a1 50 (by decide)]
  obtain ⟨W, hW⟩ : ∃ W, W = RS.setI Q 43 ((v.i 43) - 1) := ⟨_, rfl⟩
  have wa : W.a = Q.a := by rw [hW]; rfl
  have wi : ∀ j : Nat, j ≠ 43 → W.i j = v.i j := fun j h2 => by rw [hW]; exact (if_neg h2).trans (by rw [i1])
  have w43 : goI W = γ0 := by
    have e : W.i 43 = v.i 43 - 1 := by rw [hW]; rfl
    have e1' : (1 : Int32).toInt = 1 := by decide
    have g2' : (v.i 43).toInt = (γ0 : Int) + 1 := g2
    unfold goI
    rw [e, toInt_sub] <;> rw [e1'] <;> omega
  have wb : W.b = v.b := by rw [hW]; exact bb1
  rw [← hW]
  clear hW
  have cW : cdI W = cdI v := by unfold cdI; rw [wi 20 (by decide)]
  have hpp : PPL γ0 Lb (v.i 20) (fun _ => False) v W := by
    refine ⟨⟨fun k h1 h2 => by rw [wa]; exact a1 k (by omega), by rw [wb], fun j h1 h2 h3 h4 h5 h6 => wi j h3⟩, by omega, w43, g2, b1, fun k hk => ⟨by rw [wa, a1 21 (by decide)], fun _ => by rw [wa, a1 23 (by decide)]⟩, fun k hk h1 => by rw [wa, a22, if_neg h1], fun k hk => by rw [wa, a22, if_pos hk]⟩
  have ksv : KP t s v := kZ.tr w3 (Nat.le_refl _)
  have snZ : SNW s Z := SNW.eq Z38 kZ.2.2.2.2.2.1.2.1
  have sn2 : SNW s v := snZ.tr w6 kZ w3
  have ra2 : RATE s v := raZ.tr w5
  have seW : seI W = seI v := by unfold seI; rw [wi 38 (by decide)]
  have slW : slI W = slI v := hpp.1.sl
  have snW : SNW s W := by
    refine ⟨by have := sn2.1; omega, fun y y1 y2 => ?_⟩
    have e : gv W 40 y = gv v 40 y := by unfold gv; rw [wa, a1 40 (by decide)]
    rw [e]
    exact sn2.2 y y1 (by omega)
  have t2 := w1.2.2.2.1
  have se1 : seI s ≤ seI v := ksv.2.2.2.2.2.1.1
  have kW : KP t s W := by
    refine ksv.fin hpp.1 (hpp.chn t2) hpp.2.1 (by omega) (by omega) (fun z => by rw [wi 18 (by decide)]; exact z) (fun k hk => ?_) (fun k k1 k2 j _ => by rw [wa, a1 k (by omega)])
    have hlt : (k : Int) < cdI v := by have := ksv.2.1.1; omega
    refine ⟨(hpp.2.2.2.2.2.1 k hlt).1, hpp.2.2.2.2.2.2.1 k hlt (fun q => ?_), (hpp.2.2.2.2.2.1 k hlt).2 id⟩
    have := (new_sites w3 hdZ (by omega) b1 k q).1
    omega
  have kw := ksv.2.2.2.2.2.2.2.2.1
  have hww : ∀ w : Nat, (w : Int) < waI v → gv v 58 w ≤ γ0 := fun w hw => by
    have e1 : waI v = waI s := by have : waI v = waI Z := w4.wa; have : waI Z = waI s := by { unfold waI; rw [Z56] }; omega
    have := (hI.2.2.2.1.2.2.2.2.2.2.2.2.1 w (by omega)).2.2.2
    have e : gv v 58 w = gv s 58 w := by unfold gv; rw [kw.2.2 w (by omega)]
    omega
  have fin : ∀ y : Int32, (y = 0 ∨ y = 1) → (v.i 75 = 1 → y = 1) → (v.a 50 γ0 = 1 → y = 1) → ok (((f_X12_over N W y).bind fun p => some p).bind fun p => f_X12_parse_10 N m p) P := by
    intro y hy h1 h2
    refine LEND0 (x := y) h9 hy hC hI hpp.1 (hpp.chn t2) hpp.2.1 (by omega) (by omega) kW w1 (fun j _ _ j3 _ => wi j j3) w2 ksv (w4.1.trans Z19) ((wi 52 (by decide)).trans (w4.2.2.1.trans Z52)) (w4.2.2.2.trans Z56) (by omega) snW ra2 ?_ (by omega) (by omega) (fun q => ?_)
    · unfold RATE at ra2; omega
    · have hpp' : PPL γ0 Lb (v.i 20) (fun _ => False) v (W.setI 75 y) := by
        obtain ⟨h1', h2', h3', h4', h6', h7', h8', h10'⟩ := hpp
        exact ⟨⟨h1'.1, h1'.2.1, fun j a b c d e f => (if_neg f).trans (h1'.2.2 j a b c d e f)⟩, h2', h3', h4', h6', h7', h8', h10'⟩
      exact TS.label hI kZ cZ Z38 Z52 (by omega) g0 gZ Z44 Z47 (w9 q) w3 w1 w4 w7 hpp' cW (by show cdI v = cdI W; omega) hww h1 h2
  rcases w1.r with r | r
  · rw [if_pos r]
    by_cases c50 : v.a 50 γ0 = 0
    · rw [if_pos c50]
      exact fin 0 (Or.inl rfl) (fun q => by rw [r] at q; exact absurd q (by decide)) (fun q => by rw [c50] at q; exact absurd q (by decide))
    · rw [if_neg c50]
      exact fin 1 (Or.inr rfl) (fun _ => rfl) (fun _ => rfl)
  · rw [if_neg (by rw [r]; decide)]
    exact fin 1 (Or.inr rfl) (fun _ => rfl) (fun _ => rfl)
/-- behind the label's sign -/
theorem NAM2 {N b : Nat} (hN : 4000 ≤ N) (hs : 1 ≤ b → RUNS N (b - 1)) {m : Nat} {s R : RS} {t : Nat} {P : RS → Prop} (n : Int64) (wh : Int32) (hI : INV s) (hp : PRS s) (h9 : t < 998) (hb : 2 * (t : Int) ≤ fr s + 12 * op s + 2) (hc : 900 - fr s ≤ b) (hn : 36000 + 20 ≤ (m : Int) + 40 * fr R) (hF : ∀ u, FS' s u → P u) (mR : MM t s R) (cR : cdI R = cdI s) (aR : ∀ k : Nat, k ≠ 64 → R.a k = s.a k) (R64 : R.a 64 t = 5) (hT : R.i 10 = 58) (hC : ∀ (m' : Nat) (u : RS), PS t s u → fr R ≤ fr u → (m : Int) + 40 * fr R ≤ m' + 40 * fr u → ok (f_X12_parse_10 N m' u) P) : ok ((f_X12_label N R (R.i 63) n wh).bind fun p => f_X12_parse_10 N m p) P := by
  obtain ⟨a1, a2, a3, a4, a5, a6, a7, a8⟩ := id mR
  have hN1 : 1000 ≤ N := by omega
  have rf := a1.1.f0
  have goR := a1.2.2.2.2.2.2.2.2.2.2.2.1
  have deR := a1.2.2.2.2.2.2.2.2.2.2.2.2.1
  have gRs : goI R = goI s := a4.go
  have dRs : deI R = deI s := a4.de
  unfold f_X12_label
  have e1 : (1 : Int32).toInt = 1 := by decide
  have g0' : 0 ≤ (R.i 43).toInt := goR.1
  have g4' : (R.i 43).toInt ≤ 450 := by have : goI R ≤ 450 := by omega
                                        exact this
  have ek : (R.i 43 - 1).toInt = goI R - 1 := by
    show _ = (R.i 43).toInt - 1
    rw [toInt_sub] <;> rw [e1] <;> omega
  obtain ⟨σ, eσ, l1, l19, lc⟩ := p_l8 (N := N) (R := R) (R.i 63) n wh (by omega) N R (R.i 43 - 1) (LX.rf a1.1) rfl (Or.inl rfl) (by omega) (by omega) (by omega)
  rw [eσ]
  unfold f_X12_label_60
  have kσ : KP t s σ := a3.lx l1
  have tσ : TAB σ := a1.2.2.2.1.lx l1
  have gσ : goI σ = goI s := by have : goI σ = goI R := by { unfold goI; rw [l1.2.2.1 43 (by omega) (by omega)] }; omega
  have dσ : deI σ = deI s := by have : deI σ = deI R := l1.de; have := a4.de; omega
  rw [p_go 2 n (by omega) (by omega)]
  obtain ⟨G, hG⟩ : ∃ G, G = GO σ 2 n := ⟨_, rfl⟩
  have iG : ∀ j : Nat, j ≠ 43 → G.i j = σ.i j := fun j hj => by rw [hG]; exact GO.eI hj
  have gG : goI G = goI s + 1 := by rw [hG, GO.eGO (by omega) (by omega)]; omega
  have aG : ∀ k : Nat, (k < 44 ∨ k = 45 ∨ 51 < k) → G.a k = σ.a k := fun k hk => by rw [hG]; exact GO.eA hk
  obtain ⟨γ0, hγ0⟩ : ∃ γ0, γ0 = (σ.i 43).toNatClampNeg := ⟨_, rfl⟩
  have gγ : (γ0 : Int) = goI s := by rw [hγ0, gN (by omega)]; exact gσ
  have loG : ∀ (k j : Nat), j ≠ γ0 → G.a k j = σ.a k j := fun k j hj => by rw [hG]; exact GO.lo (by rw [← hγ0]; exact hj)
  have G44 : G.a 44 γ0 = 2 := by rw [hG, hγ0]; exact GO.a44
  have G46 : G.a 46 γ0 = -1 := by rw [hG, hγ0]; exact GO.a46
  have G47 : G.a 47 γ0 = σ.i 52 := by rw [hG, hγ0]; exact GO.a47
  have hdG : ∀ b : Bool, hd G b γ0 = -1 := fun b => by rw [hG, hγ0]; exact GO.eHD0
  have kG : KP t s G := by rw [hG]; exact kσ.go (by omega) (by omega)
  have tG : TAB G := by rw [hG]; exact tσ.go (by omega) (by omega) (by omega)
  have bG : G.b 9 = σ.b 9 := by rw [hG]; rfl
  have lG : LXI G := l1.2.2.2.1.of (iG 2 (by decide)) (iG 10 (by decide)) (iG 11 (by decide)) (iG 12 (by decide)) (iG 14 (by decide)) bG
  have tR' : tpI R = t := a2
  rw [tp_nat tR']
  show ok ((if ib (R.i 63) 1000 then (f_X12_next N (RS.setA (GO σ 2 n) 66 t (σ.i 43))).bind fun p5 => (if (p5.i 10) = 415 then f_X12_label_110 N p5 (σ.i 43) else (if (p5.i 10) = 416 then f_X12_label_110 N p5 (σ.i 43) else (if (p5.i 10) = 417 then f_X12_label_110 N p5 (σ.i 43) else (if (p5.i 10) = 2 then (if ib (σ.i 43) 460 then f_X12_label_188 N (RS.setA p5 46 ((σ.i 43 : Int32).toNatClampNeg) (-2)) else none) else f_X12_label_188 N p5)))) else none : Option RS).bind fun p => f_X12_parse_10 N m p) P
  rw [if_pos (tp_ib tR' (by omega)), ← hG, ← hγ0]
  clear hG
  obtain ⟨X, hX⟩ : ∃ X, X = G.setA 66 t (σ.i 43) := ⟨_, rfl⟩
  have lX : LXI X := by rw [hX]; exact lG.sA 66 t _
  have iX : X.i = G.i := by rw [hX]; rfl
  have aX : ∀ k : Nat, k ≠ 66 → X.a k = G.a k := fun k hk => by rw [hX]; exact setA_nk hk
  have X66 : X.a 66 t = σ.i 43 := by rw [hX]; exact setA_at
  have kX : KP t s X := by rw [hX]; exact kG.loc t _ (by omega) (by omega) (Nat.le_refl _)
  have tX : TAB X := by rw [hX]; exact tG.tbl (TBL.loc G t _ (by omega) (by omega)) (fun γ hγ => (tG.2.2.2.2.2.2.1 γ hγ).2) tG.2.2.2.2.2.2.2.2.2
  rw [← hX]
  clear hX
  obtain ⟨Y, eY, y1, y2, y3, y4⟩ := p_nx hN1 lX
  rw [eY]
  have kY : KP t s Y := kX.lx y1
  have tY : TAB Y := tX.lx y1
  have iXs : ∀ j : Nat, j ≠ 43 → X.i j = σ.i j := fun j hj => by rw [iX]; exact iG j hj
  have gY : goI Y = goI s + 1 := by
    have : goI Y = goI X := by unfold goI; rw [y1.2.2.1 43 (by omega) (by omega)]
    have : goI X = goI G := by unfold goI; rw [iX]
    omega
  have ibg : ib (σ.i 43) 460 := by
    have e : (σ.i 43).toInt = goI s := gσ
    exact ⟨by omega, by omega⟩
  have loY : ∀ (k j : Nat), k ≠ 66 → j ≠ γ0 → Y.a k j = R.a k j := fun k j hk hj => by rw [y1.1, aX k hk, loG k j hj, l1.1]
  have aY : ∀ k : Nat, (k < 44 ∨ k = 45 ∨ 51 < k) → k ≠ 66 → Y.a k = R.a k := fun k hk h6 => by rw [y1.1, aX k h6, aG k hk, l1.1]
  have Y44 : Y.a 44 γ0 = 2 := by rw [y1.1, aX 44 (by decide)]; exact G44
  have Y46 : Y.a 46 γ0 = -1 := by rw [y1.1, aX 46 (by decide)]; exact G46
  have kg := a3.2.2.2.2.2.2.1
  have main : ∀ Z : RS, Z.i = Y.i → Z.b = Y.b → (∀ k : Nat, k ≠ 46 → Z.a k = Y.a k) → (∀ δ : Nat, δ ≠ γ0 → Z.a 46 δ = Y.a 46 δ ∨ (δ : Int) < goI s ∧ Z.a 46 δ = -3 ∧ ∀ ε : Nat, δ ≤ ε → (ε : Int) < goI s → Y.a 44 ε = 2 ∧ Y.a 46 ε = -2) → (Z.a 46 γ0 = -1 ∨ (Z.a 46 γ0 = -2 ∨ Z.a 46 γ0 = -3) ∧ (Y.i 10 = 2 ∨ Y.i 10 = 415 ∨ Y.i 10 = 416 ∨ Y.i 10 = 417)) → ok ((f_X12_label_188 N Z).bind fun p => f_X12_parse_10 N m p) P := by
    intro Z zi zb za z46 zg
    unfold f_X12_label_188
    have y46 : ∀ δ : Nat, (δ : Int) < goI s → Y.a 46 δ = s.a 46 δ := fun δ hδ => by rw [loY 46 δ (by decide) (by omega), aR 46 (by decide)]
    have y44 : ∀ δ : Nat, (δ : Int) < goI s → Y.a 44 δ = s.a 44 δ := fun δ hδ => by rw [loY 44 δ (by decide) (by omega), aR 44 (by decide)]
    have kZ : KP t s Z := kY.cg zi zb za (fun δ hδ => by
      rcases z46 δ (by omega) with q | ⟨q1, q2, q3⟩
      · left; rw [q]; exact y46 δ hδ
      · refine Or.inr ⟨hδ, fun ε d1 d2 => ?_⟩
        have := q3 ε d1 d2
        rw [y44 ε d2, y46 ε d2] at this
        exact ⟨this.1, Or.inl this.2⟩)
    have tZ : TAB Z := tY.cg zi za
    have lZ : LXI Z := y1.2.2.2.1.of (by rw [zi]) (by rw [zi]) (by rw [zi]) (by rw [zi]) (by rw [zi]) (by rw [zb])
    have tpZ : tpI Z = t := by
      unfold tpI
      rw [zi, y1.i63, iXs 63 (by decide), l1.i63]
      exact a2
    have r75 : Z.i 75 = 0 ∨ Z.i 75 = 1 := tZ.2.2.2.2.2.2.2.2.2
    rcases BODY (N := N) (u := Z) 1 lZ tpZ h9 with ⟨S, eS, q1, q2⟩ | ⟨eS, q1⟩
    · rw [eS]
      exact lp_f q2 (hF S (FS'.of kZ.1.1 q1 q2 r75)) (by omega)
    rw [eS]
    show ok (f_X12_parse_10 N m (TH Z t 1 2)) P
    have y15 : Y.i 15 = 0 := by rw [← zi]; exact q1
    have x15 : X.i 15 = 0 := y1.2.2.2.2.1 y15
    have s15 : σ.i 15 = 0 := by rw [← iXs 15 (by decide)]; exact x15
    have eσR : σ = R := by
      rcases lc with q | q
      · exact q
      · exact absurd s15 q
    subst eσR
    obtain ⟨r15, rc⟩ := y4 x15
    have x10 : X.i 10 = 58 := by rw [iXs 10 (by decide)]; exact hT
    obtain ⟨c1, c2, c3⟩ := rc (by rw [x10]; decide)
    have fX : fr X = fr σ := by unfold fr; rw [iXs 11 (by decide)]
    have tkX : tkI X = tkI σ := by unfold tkI; rw [iXs 17 (by decide)]
    have tkR := a1.tk
    have tk := tk_add c1 ⟨by omega, by omega⟩
    have fZ : fr Z = fr Y := by unfold fr; rw [zi]
    have tkZ : tkI Z = tkI Y := by unfold tkI; rw [zi]
    have iZs : ∀ j : Nat, (j < 10 ∨ 18 ≤ j) → j ≠ 19 → j ≠ 43 → Z.i j = σ.i j := fun j h1 h2 h3 => by rw [zi, y1.2.2.1 j h1 h2, iXs j h3]
    have Z19 : Z.i 19 = s.i 19 := by rw [zi, y2, iXs 19 (by decide)]; exact a4.1
    have Z38 : Z.i 38 = s.i 38 := (iZs 38 (by omega) (by decide) (by decide)).trans a5
    have Z52 : Z.i 52 = s.i 52 := (iZs 52 (by omega) (by decide) (by decide)).trans a4.2.2.1
    have Z56 : Z.i 56 = s.i 56 := (iZs 56 (by omega) (by decide) (by decide)).trans a4.2.2.2
    have e1 : cdI Z = cdI σ := by unfold cdI; rw [iZs 20 (by omega) (by decide) (by decide)]
    have e2 : enI Z = enI σ := by unfold enI; rw [iZs 24 (by omega) (by decide) (by decide)]
    have e3 : trI Z = trI σ := by unfold trI; rw [iZs 29 (by omega) (by decide) (by decide)]
    have e4 : caI Z = caI σ := by unfold caI; rw [iZs 33 (by omega) (by decide) (by decide)]
    have e5 : seI Z = seI σ := by unfold seI; rw [iZs 38 (by omega) (by decide) (by decide)]
    have e6 : slI Z = slI σ := by unfold slI; rw [iZs 42 (by omega) (by decide) (by decide)]
    have e8 : deI Z = deI σ := by unfold deI; rw [iZs 52 (by omega) (by decide) (by decide)]
    have e9 : waI Z = waI σ := by unfold waI; rw [iZs 56 (by omega) (by decide) (by decide)]
    have e10 : peI Z = peI σ := by unfold peI; rw [iZs 59 (by omega) (by decide) (by decide)]
    have e12 : op Z = op σ := by
      have h1 : op Z = op s := by unfold op; rw [Z19]
      have := a4.eOp
      omega
    have gZ : goI Z = goI s + 1 := by have : goI Z = goI Y := by { unfold goI; rw [zi] }; omega
    have raZ : RATE s Z := by
      unfold RATE at *
      rw [e1, e2, e3, e4, e6, e10, fZ, tkZ]
      omega
    have iZ : INV Z := by
      refine ⟨lZ, hI.2.1.kp kZ, q1, tZ, ?_⟩
      have nn := a1.2.2.2.2
      have gos := hI.2.2.2.2.2.2.2.2.2.2.2.1
      unfold NUM at nn ⊢
      rw [e1, e2, e3, e4, e5, e6, e8, e9, e10, e12, fZ, tkZ, gZ]
      omega
    have prs : PRS Z := by
      refine ⟨fun γ b1 b2 b3 => ?_, fun γ b1 => ?_⟩
      · have ne : γ ≠ γ0 := fun e => by
          subst e
          unfold gv at b3
          rcases zg with q | ⟨q | q, -⟩ <;> (rw [q] at b3; exact absurd b3 (by decide))
        have hγ : (γ : Int) < goI s := by have := b1.1; omega
        have z44 : ∀ δ : Nat, (δ : Int) < goI s → Z.a 44 δ = s.a 44 δ := fun δ hδ => by rw [za 44 (by decide)]; exact y44 δ hδ
        have acc : ACC s γ := ⟨hγ, by rw [← z44 γ hγ]; exact b1.2.1, fun δ d1 d2 => by rw [← z44 δ d2]; exact b1.2.2 δ d1 (by omega)⟩
        rcases z46 γ ne with q | ⟨-, q, -⟩
        · have e46 : gv Z 46 γ = gv s 46 γ := by unfold gv; rw [q, y46 γ hγ]
          rw [e46] at b3 ⊢
          obtain ⟨l1', l2', l3'⟩ := hp.1 γ acc (by rw [← z44 γ hγ]; exact b2) b3
          exact ⟨l1', by omega, by rw [z44 _ (by omega)]; exact l3'⟩
        · unfold gv at b3
          rw [q] at b3
          exact absurd b3 (by decide)
      · have := (b1.2 γ0 (by have := b1.1; omega) (by omega)).2
        rcases zg with q | ⟨-, q⟩
        · rcases this with r | r <;> (rw [q] at r; exact absurd r (by decide))
        · rw [zi]; exact q
    have oZ : op Z = op s := by unfold op; rw [Z19]
    have fZf := iZ.1.f0
    refine CALLS (hs (by omega)) iZ prs tpZ (by omega) (by omega) (by omega) (by omega) (fun u hu => hF u (FS'.kp kZ hu)) (fun m4 v hv hf2 hm4 => ?_)
    have fv2 := hv.1.1.f0
    obtain ⟨m5, rfl⟩ : ∃ m5, m4 = m5 + 1 := ⟨m4 - 1, by omega⟩
    have push5 : ((m5 + 1 : Nat) : Int) = (m5 : Int) + 1 := by omega
    rw [push5] at hm4
    have zh : ∀ b : Bool, hd Z b γ0 = -1 := fun b => by
      have : hd Z b γ0 = hd G b γ0 := by
        unfold hd gv
        rw [za _ (by rcases bk_cases b with e | e <;> rw [e] <;> decide), y1.1, aX _ (by rcases bk_cases b with e | e <;> rw [e] <;> decide)]
      rw [this]; exact hdG b
    refine NAM3 hN hI h9 kZ (by omega) Z38 Z19 Z52 Z56 (by omega) (by omega) gγ gZ (by rw [za 44 (by decide)]; exact Y44) ?_ zh raZ ?_ ?_ hv (fun u hu hf' => hC m5 u hu (by omega) (by omega))
    · unfold gv
      rw [za 47 (by decide), y1.1, aX 47 (by decide), G47]
      exact dσ
    · rw [za 64 (by decide), aY 64 (by omega) (by decide)]; exact R64
    · rw [za 66 (by decide), y1.1, X66]
      show goI σ = γ0
      omega
  have l110 : (Y.i 10 = 415 ∨ Y.i 10 = 416 ∨ Y.i 10 = 417) → ok ((f_X12_label_110 N Y (σ.i 43)).bind fun p => f_X12_parse_10 N m p) P := fun hq => by
    unfold f_X12_label_110
    rw [if_pos ibg, ← hγ0]
    have ek2 : (σ.i 43 - 1).toInt = goI s - 1 := by
      have e : (σ.i 43).toInt = goI s := gσ
      rw [toInt_sub] <;> rw [e1] <;> omega
    obtain ⟨Z, z1, z2, z3, z4, z5⟩ := p_l125 (N := N) N (Y.setA 46 γ0 (-3)) (σ.i 43 - 1) (by omega) (by omega) (by omega)
    rw [z1]
    refine main Z z2 z3 (fun k hk => (z4 k hk).trans (setA_nk hk)) (fun δ hδ => ?_) ?_
    · rcases z5 δ with q | ⟨q1, q2, q3⟩
      · left; rw [q]; exact setA_ne hδ
      · refine Or.inr ⟨by omega, q2, fun ε d1 d2 => ?_⟩
        have := q3 ε d1 (by omega)
        exact ⟨this.1, (setA_ne (by omega)).symm.trans this.2⟩
    · refine Or.inr ⟨Or.inr ?_, Or.inr hq⟩
      rcases z5 γ0 with q | ⟨q1, q2, q3⟩
      · rw [q]; exact setA_at
      · exact q2
  show ok ((if (Y.i 10) = 415 then f_X12_label_110 N Y (σ.i 43) else (if (Y.i 10) = 416 then f_X12_label_110 N Y (σ.i 43) else (if (Y.i 10) = 417 then f_X12_label_110 N Y (σ.i 43) else (if (Y.i 10) = 2 then (if ib (σ.i 43) 460 then f_X12_label_188 N (RS.setA Y 46 γ0 (-2)) else none) else f_X12_label_188 N Y))) : Option RS).bind fun p => f_X12_parse_10 N m p) P
  by_cases c1 : Y.i 10 = 415
  · rw [if_pos c1]; exact l110 (Or.inl c1)
  rw [if_neg c1]
  by_cases c2 : Y.i 10 = 416
  · rw [if_pos c2]; exact l110 (Or.inr (Or.inl c2))
  rw [if_neg c2]
  by_cases c3 : Y.i 10 = 417
  · rw [if_pos c3]; exact l110 (Or.inr (Or.inr c3))
  rw [if_neg c3]
  by_cases c4 : Y.i 10 = 2
  · rw [if_pos c4, if_pos ibg]
    exact main (Y.setA 46 γ0 (-2)) rfl rfl (fun k hk => setA_nk hk) (fun δ hδ => Or.inl (setA_ne hδ)) (Or.inr ⟨Or.inl setA_at, Or.inl c4⟩)
  · rw [if_neg c4]
    exact main Y rfl rfl (fun _ _ => rfl) (fun _ _ => Or.inl rfl) (Or.inl Y46)
