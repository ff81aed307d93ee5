/-! reading: do: its end -/
theorem DO2 {N : Nat} (hN : 4000 ≤ N) {m : Nat} {s B2 v2 A v3 : RS} {t γ0 : Nat} {P : RS → Prop} {xA fv : Int32} {Lc Lb : List Nat} (hI : INV s) (h9 : t < 998) (hm : 1 ≤ m) (hF : ∀ u, FS' s u → P u) (kB : KP t s B2) (cB : cdI B2 = cdI s + 2) (B21 : B2.a 21 (cdI s).toNat = 1) (B21' : B2.a 21 (cdI s + 1).toNat = 1) (B38 : B2.i 38 = s.i 38) (B19 : B2.i 19 = s.i 19) (B52 : B2.i 52 = s.i 52) (B56 : B2.i 56 = s.i 56) (fB : fr s + 2 ≤ fr B2) (tkB : tkI s ≤ tkI B2) (g0 : (γ0 : Int) = goI s) (gB : goI B2 = goI s + 1) (B44 : B2.a 44 γ0 = 0) (B47 : gv B2 47 γ0 = deI s) (bB : ∀ b : Bool, hd B2 b γ0 = -1) (raB : RATE s B2) (hv2 : PCS t 1 B2 v2) (c1 : ISCH v2 (hd v2 false γ0) Lc) (b1 : ISCH v2 (hd v2 true γ0) Lb)
  (kA : KP t s A) (aA : ∀ k : Nat, k ≠ 22 → k < 64 → A.a k = v2.a k) (bA : A.b 9 = v2.b 9) (a22 : ∀ k : Nat, A.a 22 k = if k ∈ Lc then xA else v2.a 22 k) (hxA : xA.toInt = cdI v2) (iA : ∀ j : Nat, (j < 10 ∨ 18 ≤ j) → j ≠ 19 → j ≠ 43 → A.i j = v2.i j) (gA : goI A = γ0) (iAv : INV A) (A19 : A.i 19 = s.i 19 + 1) (fA : fr v2 + 1 ≤ fr A) (tkA : tkI v2 ≤ tkI A ∧ tkI A - tkI v2 ≤ fr A - fr v2) (aF : ∀ k : Nat, 74 ≤ k → A.a k = v2.a k) (A64 : A.a 64 t = 11) (A66 : (A.a 66 t).toInt = cdI s + 1) (A67 : A.a 67 t = 1 ∧ (v2.i 75 = 1 ∨ ¬ v2.a 51 γ0 = 0) ∨ A.a 67 t = 0 ∧ v2.i 75 = 0 ∧ v2.a 51 γ0 = 0) (A70 : A.a 70 t = v2.a 48 γ0) (A72 : A.a 72 t = 1 ∨ A.a 72 t = 0 ∧ v2.a 50 γ0 = 0) (A69 : A.a 69 t = fv) (hfv : fv = 0 ∨ A.i 10 = 432 ∧ fv = A.i 17) (hv3 : PC t 2 A v3) (hC : ∀ W, PS t s W → fr v3 + 2 ≤ fr W → ok (f_X12_parse_10 N m W) P) : ok (f_X12_parse_10 N (m + 1) v3) P := by
  have hN1 : 1000 ≤ N := by omega
  obtain ⟨w1, w2, w3, w4, w5, w6, w7, w8, w9, w10, w11⟩ := id hv2
  obtain ⟨v1, v2', v3', v4, v5, v6, v7, v8, v9, v10, v11, v12⟩ := id hv3
  have t2 := w1.2.2.2.1
  have cs := hI.cd
  have c2' := w1.cd
  have c3' := v1.cd
  have f2 := w1.1.f0
  have f3 := v1.1.f0
  have le2 := w3.2.1.1
  have le3 := v3'.2.1.1
  have g2 : goI v2 = (γ0 : Int) + 1 := by have := w4.go; omega
  have ltc : ∀ k ∈ Lc, (k : Int) < cdI v2 := fun k hk => (new_sites w3 bB (by omega) c1 k hk).2
  have ltb : ∀ k ∈ Lb, (k : Int) < cdI v2 := fun k hk => (new_sites w3 bB (by omega) b1 k hk).2
  have gec : ∀ k ∈ Lc, cdI B2 ≤ (k : Int) := fun k hk => (new_sites w3 bB (by omega) c1 k hk).1
  have geb : ∀ k ∈ Lb, cdI B2 ≤ (k : Int) := fun k hk => (new_sites w3 bB (by omega) b1 k hk).1
  have cA : cdI A = cdI v2 := by unfold cdI; rw [iA 20 (by omega) (by decide) (by decide)]
  have dj := t2.1.2.1
  have dis : ∀ k : Nat, k ∈ Lc → k ∈ Lb → False := fun k h1 h2 => by
    have := (dj γ0 γ0 false true Lc Lb k (by omega) (by omega) c1 b1 h1 h2).2
    exact absurd this (by decide)
  have eqA : EQT v2 A := ⟨fun k h1 h2 => by rcases h2 with q | q; exact aA k (by omega) q; exact aF k q, bA, fun j h1 h2 h3 h4 h5 h6 => iA j (by omega) (by omega) h3⟩
  have chA : CHN v2 A := fun γ b L x hγ hI' hx' => by
    refine ⟨by rw [aA 21 (by decide) (by decide)], ?_⟩
    rw [a22, if_neg (fun q => ?_)]
    have := (dj γ γ0 b false L Lc x (by omega) (by omega) hI' c1 hx' q).1; omega
  refine lp_11 v2' (by omega) v1.2.2.1 ((v12 64 (by omega) (by omega) (by omega)).trans A64) ?_
  unfold f_X12_repeats
  rw [if_pos (tp_ib v2' (by omega)), tp_nat v2', if_neg (by rw [v11]; decide), if_neg (by rw [v11]; decide)]
  obtain ⟨z, ez, hz⟩ := p_jt (N := N) (v := v3) (v3.a 69 t)
  rw [ez]
  have v69 : v3.a 69 t = fv := (v12 69 (by omega) (by omega) (by omega)).trans A69
  have hjt : z = 1 → cdI v3 = cdI A + 1 ∧ v3.a 21 (cdI A).toNat = 2 ∧ v3.a 22 (cdI A).toNat = 1 := fun hj => by
    rcases hz with c | ⟨d1, d2, d3⟩
    · rw [c] at hj; exact absurd hj (by decide)
    · rw [v69] at d2 d3
      rcases hfv with h | ⟨h1, h2⟩
      · rw [h] at d2; exact absurd (by decide) d2
      · have tk : tkI v3 = tkI A + 1 := tk_add (by rw [d3, h2]) ⟨iAv.tk.1, by have := iAv.tk; have := iAv.1.f0; omega⟩
        exact v10.2 h1 tk
  have hz01 : z = 0 ∨ z = 1 := by rcases hz with c | c; exact Or.inl c; exact Or.inr c.1
  obtain ⟨B0, eB, x1, x2⟩ := SHO hN1 v1 41 (by decide)
  show ok (((f_X12_shut N v3 41).bind fun p32 => (f_X12_need N p32.2 59).bind fun p34 => (f_X12_emit N p34.2 14 (p34.2.a 66 t)).bind fun p36 => (f_X12_patch N p36.2 (p36.2.a 70 t) (p36.2.i 20)).bind fun p38 => (if (p38.a 67 t) = 1 then (if z = 0 then (f_X12_over N p38 1).bind fun p47 => some p47 else (if (p38.a 72 t) = 1 then (f_X12_over N p38 1).bind fun p52 => some p52 else (f_X12_over N p38 0).bind fun p50 => some p50)) else (if (p38.a 72 t) = 1 then (f_X12_over N p38 1).bind fun p44 => some p44 else (f_X12_over N p38 0).bind fun p42 => some p42))).bind fun p => f_X12_parse_10 N m p) P
  rw [eB]
  obtain ⟨B, hB⟩ : ∃ B, B = B0.2 := ⟨_, rfl⟩
  show ok (((f_X12_need N B0.2 59).bind fun p34 => (f_X12_emit N p34.2 14 (p34.2.a 66 t)).bind fun p36 => (f_X12_patch N p36.2 (p36.2.a 70 t) (p36.2.i 20)).bind fun p38 => (if (p38.a 67 t) = 1 then (if z = 0 then (f_X12_over N p38 1).bind fun p47 => some p47 else (if (p38.a 72 t) = 1 then (f_X12_over N p38 1).bind fun p52 => some p52 else (f_X12_over N p38 0).bind fun p50 => some p50)) else (if (p38.a 72 t) = 1 then (f_X12_over N p38 1).bind fun p44 => some p44 else (f_X12_over N p38 0).bind fun p42 => some p42))).bind fun p => f_X12_parse_10 N m p) P
  rw [← hB] at x1 x2 ⊢
  clear hB eB
  obtain ⟨D0, eD, y1, y2, y3, y4⟩ := p_nd hN1 x1.2.2.2.1 59 (by decide)
  rw [eD]
  obtain ⟨D, hD⟩ : ∃ D, D = D0.2 := ⟨_, rfl⟩
  show ok (((f_X12_emit N D0.2 14 (D0.2.a 66 t)).bind fun p36 => (f_X12_patch N p36.2 (p36.2.a 70 t) (p36.2.i 20)).bind fun p38 => (if (p38.a 67 t) = 1 then (if z = 0 then (f_X12_over N p38 1).bind fun p47 => some p47 else (if (p38.a 72 t) = 1 then (f_X12_over N p38 1).bind fun p52 => some p52 else (f_X12_over N p38 0).bind fun p50 => some p50)) else (if (p38.a 72 t) = 1 then (f_X12_over N p38 1).bind fun p44 => some p44 else (f_X12_over N p38 0).bind fun p42 => some p42))).bind fun p => f_X12_parse_10 N m p) P
  rw [← hD] at y1 y2 y3 y4 ⊢
  clear hD eD
  have xD : LX v3 D := x1.tr y1
  have aD : D.a = v3.a := xD.1
  have cD : cdI D = cdI v3 := xD.tbl.cd
  have v66 : v3.a 66 t = A.a 66 t := v12 66 (by omega) (by omega) (by omega)
  rw [aD, v66, p_em 14 (A.a 66 t) (by omega) (by omega)]
  obtain ⟨E, hE⟩ : ∃ E, E = EM D 14 (A.a 66 t) := ⟨_, rfl⟩
  have lE : LXI E := by rw [hE]; exact LXI.em xD.2.2.2.1
  have iE : ∀ j : Nat, j ≠ 20 → E.i j = D.i j := fun j hj => by rw [hE]; exact EM.i hj
  have cE : cdI E = cdI v3 + 1 := by rw [hE, EM.cd (by omega) (by omega)]; omega
  have kE : KP t v3 E := by rw [hE]; exact ((KP.rf t v3).lx xD).em c3'.1 (by omega)
  have tE : TAB E := by rw [hE]; exact (v1.2.2.2.1.lx xD).em (by omega) (by omega)
  have aE : ∀ k : Nat, k ≠ 21 → k ≠ 22 → k ≠ 23 → E.a k = v3.a k := fun k h1 h2 h3 => by rw [hE, EM.a h1 h2 h3, aD]
  have E21 : ∀ j : Nat, E.a 21 j = if j = (cdI v3).toNat then 14 else v3.a 21 j := fun j => by rw [hE, EM.a21, cD, aD]
  have E22 : ∀ j : Nat, E.a 22 j = if j = (cdI v3).toNat then A.a 66 t else v3.a 22 j := fun j => by rw [hE, EM.a22, cD, aD]
  have E23 : ∀ j : Nat, E.a 23 j = if j = (cdI v3).toNat then 0 else v3.a 23 j := fun j => by rw [hE, EM.a23, cD, aD]
  have bE : E.b 9 = v3.b 9 := by rw [hE]; show D.b 9 = _; rw [xD.2.1]
  show ok (((f_X12_patch N (EM D 14 (A.a 66 t)) ((EM D 14 (A.a 66 t)).a 70 t) ((EM D 14 (A.a 66 t)).i 20)).bind fun p38 => (if (p38.a 67 t) = 1 then (if z = 0 then (f_X12_over N p38 1).bind fun p47 => some p47 else (if (p38.a 72 t) = 1 then (f_X12_over N p38 1).bind fun p52 => some p52 else (f_X12_over N p38 0).bind fun p50 => some p50)) else (if (p38.a 72 t) = 1 then (f_X12_over N p38 1).bind fun p44 => some p44 else (f_X12_over N p38 0).bind fun p42 => some p42))).bind fun p => f_X12_parse_10 N m p) P
  rw [← hE]
  clear hE
  have e70 : E.a 70 t = v2.a 48 γ0 := by rw [aE 70 (by decide) (by decide) (by decide), v12 70 (by omega) (by omega) (by omega)]; exact A70
  have kc3 := v3'.2.1
  have isE : ISCH E (v2.a 48 γ0).toInt Lb := ISCH.of (show ISCH v2 (v2.a 48 γ0).toInt Lb from b1) (fun y hy => by
    have hl := ltb y hy
    refine ⟨by rw [E21, if_neg (by omega), kc3.2.1 y (by omega), aA 21 (by decide) (by decide)], ?_⟩
    rw [E22, if_neg (by omega), kc3.2.2.1 y (by omega), a22, if_neg (fun q => dis y q hy)])
  rw [e70]
  have ePT := p_pt (N := N) hN (σ := E) (site := v2.a 48 γ0) (w := E.i 20) isE (fun x hx => by have := ltb x hx; omega)
  rw [ePT]
  obtain ⟨W, hW⟩ : ∃ W, W = PT (E.i 20) Lb E := ⟨_, rfl⟩
  have iW : W.i = E.i := by rw [hW]; exact PT.eI
  have aW : ∀ k : Nat, k ≠ 22 → W.a k = E.a k := fun k hk => by rw [hW]; exact PT.eA hk
  have W22 : ∀ j : Nat, W.a 22 j = if j ∈ Lb then E.i 20 else E.a 22 j := fun j => by rw [hW]; exact PT.e22 j
  have bW : W.b = E.b := by rw [hW]; exact PT.eB
  show ok ((if ((PT (E.i 20) Lb E).a 67 t) = 1 then (if z = 0 then (f_X12_over N (PT (E.i 20) Lb E) 1).bind fun p47 => some p47 else (if ((PT (E.i 20) Lb E).a 72 t) = 1 then (f_X12_over N (PT (E.i 20) Lb E) 1).bind fun p52 => some p52 else (f_X12_over N (PT (E.i 20) Lb E) 0).bind fun p50 => some p50)) else (if ((PT (E.i 20) Lb E).a 72 t) = 1 then (f_X12_over N (PT (E.i 20) Lb E) 1).bind fun p44 => some p44 else (f_X12_over N (PT (E.i 20) Lb E) 0).bind fun p42 => some p42) : Option RS).bind fun p => f_X12_parse_10 N m p) P
  rw [← hW]
  clear hW ePT
  have w67 : W.a 67 t = A.a 67 t := by rw [aW 67 (by decide), aE 67 (by decide) (by decide) (by decide), v12 67 (by omega) (by omega) (by omega)]
  have w72 : W.a 72 t = A.a 72 t := by rw [aW 72 (by decide), aE 72 (by decide) (by decide) (by decide), v12 72 (by omega) (by omega) (by omega)]
  rw [w67, w72]
  have ksv3 : KP t s v3 := kA.tr v3' (Nat.le_refl _)
  have ksE : KP t s E := ksv3.tr kE (Nat.le_refl _)
  have cW : cdI W = cdI v3 + 1 := by have : cdI W = cdI E := by { unfold cdI; rw [iW] }; omega
  have gv3 : goI v3 = γ0 := by have := v4.go; omega
  have gE : goI E = γ0 := by have : goI E = goI v3 := by { unfold goI; rw [iE 43 (by decide), xD.2.2.1 43 (by omega) (by omega)] }; omega
  have gW : goI W = γ0 := by have : goI W = goI E := by { unfold goI; rw [iW] }; omega
  have eqW : EQT E W := ⟨fun k h1 h2 => aW k (by omega), by rw [bW], fun j _ _ _ _ _ _ => by rw [iW]⟩
  have tnA : TN A := iAv.tn
  have kAE : KP t A E := v3'.tr kE (Nat.le_refl _)
  have chW : CHN E W := fun γ b L x hγ hI' hx' => by
    refine ⟨by rw [aW 21 (by decide)], ?_⟩
    rw [W22, if_neg (fun q => ?_)]
    obtain ⟨M, m1, m2⟩ := t2.1.1 γ b (by omega)
    have m3 := chA.eIS eqA (by omega) m1
    obtain ⟨L1, l1, l2⟩ := kAE.2.2.2.2.2.2.2.1 γ b M (by omega) m3 (fun y hy => by have := m2 y hy; omega)
    have e := ISCH.uniq hI' l1
    rw [e] at hx'
    have hq := ltb x q
    rcases List.mem_append.mp hx' with r | r
    · have := (l2 x r).1; omega
    · have := (dj γ γ0 b true M Lb x (by omega) (by omega) m1 b1 r q).1; omega
  have kg := ksE.2.2.2.2.2.2.1
  have seW : seI W = seI v3 := by unfold seI; rw [iW, iE 38 (by decide), xD.i38]
  have kW : KP t s W := ksE.fin eqW chW (by omega) (by omega) (by have := ksv3.2.2.2.2.2.1.1; omega) (fun q => by rw [iW]; exact q) (fun k hk => ⟨by rw [aW 21 (by decide)], by rw [W22, if_neg (fun q => by have := geb k q; omega)], by rw [aW 23 (by decide)]⟩) (fun k k1 k2 j _ => by rw [aW k (by omega)])
  have iWv : ∀ j : Nat, (j < 10 ∨ 18 ≤ j) → j ≠ 19 → j ≠ 20 → W.i j = v3.i j := fun j h1 h2 h3 => by rw [iW, iE j h3, xD.2.2.1 j h1 h2]
  have r75 : W.i 75 = 0 ∨ W.i 75 = 1 := by rw [iWv 75 (by omega) (by decide) (by decide)]; exact v1.r
  have tpW : tpI W = t := by unfold tpI at *; rw [iWv 63 (by omega) (by decide) (by decide)]; exact v2'
  have lW : LXI W := lE.of (by rw [iW]) (by rw [iW]) (by rw [iW]) (by rw [iW]) (by rw [iW]) (by rw [bW])
  by_cases d15 : D.i 15 = 0
  case neg =>
    have w15 : ¬ W.i 15 = 0 := by rw [iW, iE 15 (by decide)]; exact d15
    have fs : FS' s W := ⟨w15, kW.1.1, r75⟩
    have flt : ∀ y : Int32, (y = 0 ∨ y = 1) → ok (((f_X12_over N W y).bind fun p => some p).bind fun p => f_X12_parse_10 N m p) P := fun y hy => by
      rw [e_over hy]
      exact lp_f (u := (W.setI 75 y).setI 63 (W.i 63 - 1)) w15 (hF _ ((fs.i75 y hy).i63 _)) hm
    by_cases q1 : A.a 67 t = 1
    · rw [if_pos q1]
      by_cases q2 : z = 0
      · rw [if_pos q2]; exact flt 1 (Or.inr rfl)
      · rw [if_neg q2]
        by_cases q3 : A.a 72 t = 1
        · rw [if_pos q3]; exact flt 1 (Or.inr rfl)
        · rw [if_neg q3]; exact flt 0 (Or.inl rfl)
    · rw [if_neg q1]
      by_cases q3 : A.a 72 t = 1
      · rw [if_pos q3]; exact flt 1 (Or.inr rfl)
      · rw [if_neg q3]; exact flt 0 (Or.inl rfl)
  case pos =>
  have b15 : B.i 15 = 0 := y1.2.2.2.2.1 d15
  rcases x2 with q | ⟨-, x3, x4, x5, x6⟩
  · exact absurd b15 q
  obtain ⟨y5, y6, y7, y8⟩ := y4 d15
  have fBf := x1.2.2.2.1.f0
  have tkD := tk_add y6 ⟨by have := v1.tk; omega, by have := v1.tk; omega⟩
  have fW : fr W = fr D := by unfold fr; rw [iW, iE 11 (by decide)]
  have tkW : tkI W = tkI D := by unfold tkI; rw [iW, iE 17 (by decide)]
  have smW : SAME s W := by
    refine ⟨?_, Int32.toInt_inj.mp (show goI W = goI s by omega), ?_, ?_⟩
    · rw [iW, iE 19 (by decide), y2, x4, v4.1, A19, Int32.add_sub_cancel]
    · rw [iWv 52 (by omega) (by decide) (by decide), v4.2.2.1, iA 52 (by omega) (by decide) (by decide), w4.2.2.1]; exact B52
    · rw [iWv 56 (by omega) (by decide) (by decide), v4.2.2.2, iA 56 (by omega) (by decide) (by decide), w4.2.2.2]; exact B56
  have snB : SNW s B2 := SNW.eq B38 kB.2.2.2.2.2.1.2.1
  have sn2 : SNW s v2 := snB.tr w6 kB w3
  have se3 : seI v3 = seI v2 := by unfold seI; rw [v5, iA 38 (by omega) (by decide) (by decide)]
  have slA : slI A = slI v2 := by unfold slI; rw [iA 42 (by omega) (by decide) (by decide)]
  have sl3 := v3'.2.2.2.2.2.1.2.1
  have slW : slI W = slI v3 := by unfold slI; rw [iWv 42 (by omega) (by decide) (by decide)]
  have snW : SNW s W := by
    refine ⟨by have := sn2.1; omega, fun y h1 h2 => ?_⟩
    have seA : seI A = seI v2 := by unfold seI; rw [iA 38 (by omega) (by decide) (by decide)]
    have e : gv W 40 y = gv v2 40 y := by
      unfold gv
      rw [aW 40 (by decide), aE 40 (by decide) (by decide) (by decide), v3'.2.2.2.2.2.1.2.2.1 y (by omega), aA 40 (by decide) (by decide)]
    rw [e]
    exact sn2.2 y h1 (by omega)
  have ra2 : RATE s v2 := raB.tr w5
  have raW : RATE s W := by
    have e2 : enI A = enI v2 := by unfold enI; rw [iA 24 (by omega) (by decide) (by decide)]
    have e3 : trI A = trI v2 := by unfold trI; rw [iA 29 (by omega) (by decide) (by decide)]
    have e4 : caI A = caI v2 := by unfold caI; rw [iA 33 (by omega) (by decide) (by decide)]
    have e6 : peI A = peI v2 := by unfold peI; rw [iA 59 (by omega) (by decide) (by decide)]
    have k2 : enI W = enI v3 := by unfold enI; rw [iWv 24 (by omega) (by decide) (by decide)]
    have k3 : trI W = trI v3 := by unfold trI; rw [iWv 29 (by omega) (by decide) (by decide)]
    have k4 : caI W = caI v3 := by unfold caI; rw [iWv 33 (by omega) (by decide) (by decide)]
    have k6 : peI W = peI v3 := by unfold peI; rw [iWv 59 (by omega) (by decide) (by decide)]
    unfold RATE at ra2 v6 ⊢
    rw [cW, k2, k3, k4, slW, k6, fW, tkW]
    omega
  have tW : TAB W := tE.fin eqW chW (by omega) (by omega) (by have : seI E = seI v3 := by { unfold seI; rw [iE 38 (by decide), xD.i38] }; omega) (fun γ hγ => by
    have : deI W = deI E := by unfold deI; rw [iW]
    have := (tE.2.2.2.2.2.2.1 γ (by omega)).2
    omega) (fun w hw => by have := (tE.2.2.2.2.2.2.2.2.1 w hw).2.2.2; omega) r75
  have iWI : INV W := hI.mkS kW lW (by rw [iW, iE 15 (by decide)]; exact d15) tW smW snW raW (by omega) (by omega)
  have L2 : LAT noZ B2 v2 W := ((((LAT.rf noZ B2 v2).fin eqA chA t2.1.1 (by omega) (by omega) (fun k k1 k2 => ⟨by rw [aA 21 (by decide) (by decide)], by rw [aA 23 (by decide) (by decide)], fun q => by rw [a22, if_neg (fun r => q ⟨γ0, false, Lc, by omega, c1, r⟩)]⟩)).kp kAE tnA (by omega))).pt (Lb := Lb) eqW chW tE.1.1 (by omega) (by omega) (fun k _ => ⟨by rw [aW 21 (by decide)], by rw [aW 23 (by decide)]⟩) (fun k _ hk => by rw [W22, if_neg hk]) (fun k hk _ _ => ⟨γ0, true, Lb, by omega, b1, hk⟩)
  have L3 : LAT noZ A v3 W := ((LAT.rf noZ A v3).kp kE v1.tn (by omega)).pt (Lb := Lb) eqW chW tE.1.1 (by omega) (by omega) (fun k _ => ⟨by rw [aW 21 (by decide)], by rw [aW 23 (by decide)]⟩) (fun k _ hk => by rw [W22, if_neg hk]) (fun k hk h1 _ => by have := ltb k hk; omega)
  have stg : STG v2 W := ((STG.fin eqA chA (by omega) (by omega)).tr (STG.kp kAE (by omega) (by
    have e1 : waI E = waI v3 := by unfold waI; rw [iE 56 (by decide), xD.2.2.1 56 (by omega) (by omega)]
    have := v4.wa
    omega))).tr (STG.fin eqW chW (by omega) (by omega))
  have kw := (kB.tr w3 (Nat.le_refl _)).2.2.2.2.2.2.2.2.1
  have hww : ∀ w : Nat, (w : Int) < waI v2 → gv v2 58 w ≤ γ0 := fun w hw => by
    have e1 : waI v2 = waI s := by have : waI v2 = waI B2 := w4.wa; have : waI B2 = waI s := by { unfold waI; rw [B56] }; omega
    have := (hI.2.2.2.1.2.2.2.2.2.2.2.2.1 w (by omega)).2.2.2
    have e : gv v2 58 w = gv s 58 w := by unfold gv; rw [kw.2.2 w (by omega)]
    omega
  have hnop : ∀ (b : Bool) (k : Nat), SITE s v2 γ0 b k → ¬ OPN W k ∧ (k : Int) < cdI v2 ∧ gv W 22 k = if b = true then cdI W else cdI A := fun b k hs => by
    obtain ⟨u1, L, u2, u3⟩ := hs
    have hlt : (k : Int) < cdI v2 := (new_sites w3 bB (by omega) u2 k u3).2
    refine ⟨fun ⟨γ, b', L', o1, o2, o3⟩ => ?_, hlt, ?_⟩
    · obtain ⟨M, m1, m2⟩ := t2.1.1 γ b' (by omega)
      have m3 := chA.eIS eqA (by omega) m1
      obtain ⟨L1, l1, l2⟩ := kAE.2.2.2.2.2.2.2.1 γ b' M (by omega) m3 (fun y hy => by have := m2 y hy; omega)
      have e := ISCH.uniq o2 (chW.eIS eqW o1 l1)
      rw [e] at o3
      rcases List.mem_append.mp o3 with r | r
      · have := (l2 k r).1; omega
      · have := (dj γ γ0 b' b M L k (by omega) (by omega) m1 u2 r u3).1; omega
    · unfold gv
      cases b
      · have hk : k ∈ Lc := by rw [← ISCH.uniq u2 c1]; exact u3
        rw [W22, if_neg (fun q => dis k hk q), E22, if_neg (by omega), kc3.2.2.1 k (by omega), a22, if_pos hk, if_neg (by decide), hxA, cA]
      · have hk : k ∈ Lb := by rw [← ISCH.uniq u2 b1]; exact u3
        rw [W22, if_pos hk, if_pos rfl]
        show cdI E = cdI W
        omega
  have fin : ∀ y : Int32, (y = 0 ∨ y = 1) → ((v2.i 75 = 1 ∨ v2.a 51 γ0 = 1) → ¬ z = 1 → y = 1) → (v2.a 50 γ0 = 1 → y = 1) → ok (((f_X12_over N W y).bind fun p => some p).bind fun p => f_X12_parse_10 N m p) P := by
    intro y hy h1 h2
    refine IF3 (q := W) h9 hy (fun u hu hfu => hC u hu (by omega)) iWI tpW kW smW snW raW (by omega) (by omega) (fun q => ?_)
    have z3 : ¬ 0 ≤ v3.i 18 := fun r => q (by rw [iWv 18 (by omega) (by decide) (by decide)]; exact r)
    have z2 : ¬ 0 ≤ v2.i 18 := fun r => z3 (v3'.1.2 (by rw [iA 18 (by omega) (by decide) (by decide)]; exact r))
    have tbY : TBS W (W.setI 75 y) := (TBL.i75 W y).tbs
    have seA : seI A = seI v2 := by unfold seI; rw [iA 38 (by omega) (by decide) (by decide)]
    refine TS.doo (W := W.setI 75 y) (jt := z = 1) (xk := A.a 66 t) hI kB cB B21 B21' B38 B52 (by omega) g0 gB B44 B47 (w9 z2) w3 w1 w4 sn2 w7 kA cA ((iA 52 (by omega) (by decide) (by decide)).trans (w4.2.2.1.trans B52)) (by omega) ⟨seA, fun j _ => by rw [aA 40 (by decide) (by decide)], fun j _ => by rw [aA 41 (by decide) (by decide)]⟩ (fun _ => v9 z3) hjt v3' v1 (v4.2.2.1.trans ((iA 52 (by omega) (by decide) (by decide)).trans (w4.2.2.1.trans B52))) v7 cW ?_ ?_ A66 (fun k hk => ?_) (fun he => ?_) (fun k hk => ?_) (L2.tbs tbY tW.1.1) (L3.tbs tbY tW.1.1) (stg.tr (STG.tbs tbY)) gW (fun b k hs => ?_) hww h1 h2
    · show W.a 21 (cdI v3).toNat = 14
      rw [aW 21 (by decide), E21, if_pos rfl]
    · show W.a 22 (cdI v3).toNat = A.a 66 t
      rw [W22, if_neg (fun r => by have := ltb _ r; omega), E22, if_pos rfl]
    · show W.a 21 k = v3.a 21 k
      rw [aW 21 (by decide), E21, if_neg (by omega)]
    · show W.a 22 (cdI A).toNat = _
      rw [W22, if_neg (fun r => by have := ltb _ r; omega), E22, if_neg (by omega)]
    · rw [kc3.2.1 k (by omega), aA 21 (by decide) (by decide)]
    · obtain ⟨n1, n2, n3⟩ := hnop b k hs
      refine ⟨fun ⟨γ, b', L', o1, o2, o3⟩ => n1 ⟨γ, b', L', o1, by cases b' <;> exact o2.of (fun _ _ => ⟨rfl, rfl⟩), o3⟩, n2, n3⟩
  by_cases q1 : A.a 67 t = 1
  · rw [if_pos q1]
    by_cases q2 : z = 0
    · rw [if_pos q2]; exact fin 1 (Or.inr rfl) (fun _ _ => rfl) (fun _ => rfl)
    · rw [if_neg q2]
      have z1 : z = 1 := by rcases hz01 with r | r; exact absurd r q2; exact r
      by_cases q3 : A.a 72 t = 1
      · rw [if_pos q3]; exact fin 1 (Or.inr rfl) (fun _ _ => rfl) (fun _ => rfl)
      · rw [if_neg q3]
        refine fin 0 (Or.inl rfl) (fun _ r => absurd z1 r) (fun r => ?_)
        rcases A72 with h | h
        · exact absurd h q3
        · rw [h.2] at r; exact absurd r (by decide)
  · rw [if_neg q1]
    have dead : (v2.i 75 = 1 ∨ v2.a 51 γ0 = 1) → False := fun r => by
      rcases A67 with h | ⟨h1, h2, h3⟩
      · exact q1 h.1
      · rcases r with r | r
        · rw [h2] at r; exact absurd r (by decide)
        · rw [h3] at r; exact absurd r (by decide)
    by_cases q3 : A.a 72 t = 1
    · rw [if_pos q3]; exact fin 1 (Or.inr rfl) (fun _ _ => rfl) (fun _ => rfl)
    · rw [if_neg q3]
      refine fin 0 (Or.inl rfl) (fun r _ => (dead r).elim) (fun r => ?_)
      rcases A72 with h | h
      · exact absurd h q3
      · rw [h.2] at r; exact absurd r (by decide)
