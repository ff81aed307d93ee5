/-! reading: for: its end -/
theorem FO8 {N : Nat} (hN : 4000 ≤ N) {m : Nat} {s J A v1 U0 u1 B2 v2 : RS} {xr xi : Int32} {t γ0 : Nat} {P : RS → Prop} {z : Int32} (hI : INV s) (h9 : t < 998)
  (kJ : KP t s J) (sJ : SAME s J) (nJ : SNW s J) (tJ : TAB J) (J75 : J.i 75 = 1) (fJ : fr s ≤ fr J) (tsJ : ¬ 0 ≤ J.i 18 → TS s J) (J0 : 0 ≤ cdI J) (JB : KP t J B2)
  (kA : KP t J A) (cA : cdI A = cdI J) (A38 : A.i 38 = J.i 38) (A52 : A.i 52 = J.i 52) (fA : fr J ≤ fr A) (te : ¬ 0 ≤ v1.i 18 → z = 0 → TE A v1) (hz : z = 0 ∨ z = 1 ∧ cdI v1 = cdI A + 1 ∧ v1.a 21 (cdI A).toNat = 2 ∧ v1.a 22 (cdI A).toNat = 1) (k1 : KP t A v1) (i1 : INV v1) (d1 : v1.i 52 = J.i 52) (f1 : fr A ≤ fr v1) (f1' : fr J + 2 ≤ fr v1) (le1 : cdI A ≤ cdI v1)
  (kU : KP t v1 U0) (cU : cdI U0 = cdI v1 + 2) (U38 : U0.i 38 = J.i 38) (U52 : U0.i 52 = J.i 52) (fU : fr v1 ≤ fr U0) (tu : ¬ 0 ≤ u1.i 18 → TUP U0 u1) (ku : KP t U0 u1) (fu1 : fr U0 ≤ fr u1) (kB1 : KP t v1 B2) (cB : cdI B2 = cdI u1 + 2) (B21q : B2.a 21 (cdI v1).toNat = 13) (B21r : B2.a 21 (cdI v1 + 1).toNat = 15) (B22r : B2.a 22 (cdI v1 + 1).toNat = xr) (hxr : xr.toInt = cdI u1 + 1) (B21u : B2.a 21 (cdI u1).toNat = 15) (B22u : B2.a 22 (cdI u1).toNat = xi) (hxi : xi.toInt = cdI A) (B21s : B2.a 21 (cdI u1 + 1).toNat = 1) (B38 : B2.i 38 = J.i 38) (B19 : B2.i 19 = s.i 19) (B52 : B2.i 52 = s.i 52) (B56 : B2.i 56 = s.i 56) (fB : fr u1 ≤ fr B2) (tkB : tkI s ≤ tkI B2) (u18 : 0 ≤ u1.i 18 → 0 ≤ B2.i 18) (g0 : (γ0 : Int) = goI s) (gv1 : goI v1 = goI s) (gB : goI B2 = goI s + 1) (B44 : B2.a 44 γ0 = 0) (B47 : gv B2 47 γ0 = deI s) (bB : ∀ b : Bool, hd B2 b γ0 = -1) (raB : RATE s B2) (raS : cdI B2 + 1 - cdI s ≤ 3 * (fr B2 - fr s)) (B64 : B2.a 64 t = 12) (B67 : (B2.a 67 t).toInt = cdI v1) (B70 : (B2.a 70 t).toInt = cdI U0) (B71 : B2.a 71 t = s.i 38) (B72 : B2.a 72 t = z) (B73 : (B2.a 73 t).toInt = γ0) (snB : SNW s B2) (LUB : LAT noZ U0 u1 B2) (tnB : TN B2) (hv : PCS t 8 B2 v2) (hC : ∀ (u : RS), PS t s u → fr v2 ≤ fr u → ok (f_X12_parse_10 N m u) P) : ok (f_X12_parse_10 N (m + 1) v2) P := by
  have hv' := hv
  obtain ⟨w1, w2, w3, w4, w5, w6, w7, w8, w9, w10, w11⟩ := hv'
  have fv := w1.1.f0
  have cv := i1.cd
  have cw := w1.cd
  have cs := hI.cd
  have leU := ku.2.1.1
  have le2 := w3.2.1.1
  have gos := hI.2.2.2.2.2.2.2.2.2.2.2.1
  have hf := hI.1.f0
  have kB : KP t s B2 := kJ.tr JB (Nat.le_refl _)
  have ek : ((cdI v1).toNat : Int) = cdI v1 := Int.toNat_of_nonneg cv.1
  have g2 : goI v2 = (γ0 : Int) + 1 := by have := w4.go; omega
  have gJ : goI J = goI s := sJ.go
  have e73 : (v2.a 73 t).toInt = γ0 := by rw [w11 73 (by omega) (by omega) (by omega)]; exact B73
  have n73 := k_nat e73
  have ib73 : ib (v2.a 73 t) 460 := ⟨by omega, by omega⟩
  have k67 : (v2.a 67 t).toInt = (cdI v1).toNat := by rw [w11 67 (by omega) (by omega) (by omega), B67, ek]
  have n67 := k_nat k67
  have e70 : v2.a 70 t = B2.a 70 t := w11 70 (by omega) (by omega) (by omega)
  have e21 : v2.a 21 (cdI v1).toNat = 13 := by rw [w3.2.1.2.1 _ (by omega)]; exact B21q
  refine lp_12 w2 (by omega) w1.2.2.1 ((w11 64 (by omega) (by omega) (by omega)).trans B64) ?_
  unfold f_X12_fors
  rw [if_pos (tp_ib w2 (by omega)), tp_nat w2, if_neg (by rw [w10]; decide), if_neg (by rw [w10]; decide), if_neg (by rw [w10]; decide), if_neg (by rw [w10]; decide), if_neg (by rw [w10]; decide), if_neg (by rw [w10]; decide), if_neg (by rw [w10]; decide), if_neg (by rw [w10]; decide), if_pos w10, if_pos ib73, n73]
  obtain ⟨Lc, Lb, Q1, Q2, Q, x, c1, b1, c2, b2, e1, a1, e2, e20, a2, e3, qi, qb, qc, xc, qa, q21, q15, qfp, q22, qLc, qLb, qk1⟩ := PATCHES (fp := v2.a 70 t) hN w1 (γ0 := γ0) (k1 := (cdI v1).toNat) (by omega) (by omega) (by rw [e21]; decide)
  rw [e1]
  show ok (((f_X12_emit N Q1 15 (Q1.a 70 t)).bind fun p57 => if ib (p57.2.a 67 t) 3000 then (f_X12_patch N (RS.setA p57.2 22 (((p57.2.a 67 t) : Int32).toNatClampNeg) (p57.2.i 20)) (p57.2.a 48 γ0) (p57.2.i 20)).bind fun p60 => (if (p60.a 72 t) = 0 then (f_X12_over N (RS.setI (RS.setI p60 43 ((p60.i 43) - 1)) 38 (p60.a 71 t)) 1).bind fun p63 => f_X12_fors_469 N p63 else (if (p60.a 50 γ0) = 0 then (f_X12_over N (RS.setI (RS.setI p60 43 ((p60.i 43) - 1)) 38 (p60.a 71 t)) 0).bind fun p66 => f_X12_fors_469 N p66 else (f_X12_over N (RS.setI (RS.setI p60 43 ((p60.i 43) - 1)) 38 (p60.a 71 t)) 1).bind fun p68 => f_X12_fors_469 N p68)) else none).bind fun p => f_X12_parse_10 N m p) P
  rw [a1 70 (by decide), e2]
  show ok ((if ib (Q2.a 67 t) 3000 then (f_X12_patch N (RS.setA Q2 22 (((Q2.a 67 t) : Int32).toNatClampNeg) (Q2.i 20)) (Q2.a 48 γ0) (Q2.i 20)).bind fun p60 => (if (p60.a 72 t) = 0 then (f_X12_over N (RS.setI (RS.setI p60 43 ((p60.i 43) - 1)) 38 (p60.a 71 t)) 1).bind fun p63 => f_X12_fors_469 N p63 else (if (p60.a 50 γ0) = 0 then (f_X12_over N (RS.setI (RS.setI p60 43 ((p60.i 43) - 1)) 38 (p60.a 71 t)) 0).bind fun p66 => f_X12_fors_469 N p66 else (f_X12_over N (RS.setI (RS.setI p60 43 ((p60.i 43) - 1)) 38 (p60.a 71 t)) 1).bind fun p68 => f_X12_fors_469 N p68)) else none : Option RS).bind fun p => f_X12_parse_10 N m p) P
  rw [a2 67 (by decide) (by decide) (by decide), a2 48 (by decide) (by decide) (by decide), if_pos (show ib (v2.a 67 t) 3000 from ⟨by omega, by omega⟩), n67, e20, e3]
  show ok ((if (Q.a 72 t) = 0 then (f_X12_over N (RS.setI (RS.setI Q 43 ((Q.i 43) - 1)) 38 (Q.a 71 t)) 1).bind fun p63 => f_X12_fors_469 N p63 else (if (Q.a 50 γ0) = 0 then (f_X12_over N (RS.setI (RS.setI Q 43 ((Q.i 43) - 1)) 38 (Q.a 71 t)) 0).bind fun p66 => f_X12_fors_469 N p66 else (f_X12_over N (RS.setI (RS.setI Q 43 ((Q.i 43) - 1)) 38 (Q.a 71 t)) 1).bind fun p68 => f_X12_fors_469 N p68) : Option RS).bind fun p => f_X12_parse_10 N m p) P
  have q72 : Q.a 72 t = z := by rw [qa 72 (by decide) (by decide) (by decide), w11 72 (by omega) (by omega) (by omega)]; exact B72
  have q71 : Q.a 71 t = s.i 38 := by rw [qa 71 (by decide) (by decide) (by decide), w11 71 (by omega) (by omega) (by omega)]; exact B71
  have q50 : Q.a 50 = v2.a 50 := qa 50 (by decide) (by decide) (by decide)
  rw [q72, q71, q50]
  obtain ⟨V, hV⟩ : ∃ V, V = RS.setI Q 43 ((Q.i 43) - 1) := ⟨_, rfl⟩
  have va : V.a = Q.a := by rw [hV]; rfl
  have vi : ∀ j : Nat, j ≠ 20 → j ≠ 43 → V.i j = v2.i j := fun j h1 h2 => by rw [hV]; exact (if_neg h2).trans (qi j h1)
  have v20 : V.i 20 = Q.i 20 := by rw [hV]; rfl
  have v43 : goI V = γ0 := by
    have e : V.i 43 = v2.i 43 - 1 := by rw [hV]; show Q.i 43 - 1 = _; rw [qi 43 (by decide)]
    have e1' : (1 : Int32).toInt = 1 := by decide
    have g2' : (v2.i 43).toInt = (γ0 : Int) + 1 := g2
    unfold goI
    rw [e, toInt_sub] <;> rw [e1'] <;> omega
  have vb : V.b = Q.b := by rw [hV]; rfl
  rw [← hV]
  clear hV
  have cV : cdI V = cdI v2 + 1 := by have : cdI V = cdI Q := by { unfold cdI; rw [v20] }; omega
  have hpp : PPR γ0 Lc Lb (v2.a 70 t) x (fun k => k = (cdI v1).toNat) v2 V := by
    refine ⟨⟨fun k h1 h2 => by rw [va]; exact qa k (by omega) (by omega) (by omega), by rw [vb, qb], fun j h1 h2 h3 h4 h5 h6 => vi j (by omega) h3⟩, by omega, v43, g2, c1, b1, fun k hk => by rw [va]; exact q21 k hk, fun k hk h1 h2 h3 => by rw [va]; exact q22 k hk h1 h2 h3, fun k hk => by rw [va]; exact qLc k hk, fun k hk => by rw [va]; exact qLb k hk, fun k hk => ?_⟩
    have hk : k = (cdI v1).toNat := hk
    rw [hk, e21]; decide
  have t2 := w1.2.2.2.1
  have hchn := hpp.chn t2
  have ksv2 : KP t s v2 := kB.tr w3 (Nat.le_refl _)
  have sn2 : SNW s v2 := snB.tr w6 kB w3
  have ra2 : RATE s v2 := raB.tr w5
  have lekA := k1.2.1.1
  have leJ := kA.2.1.1
  have les := kJ.2.1.1
  have leB := kB1.2.1.1
  have ns : ∀ k : Nat, k ∈ Lc ∨ k ∈ Lb → cdI B2 ≤ (k : Int) := fun k hk => by
    rcases hk with hk | hk
    · exact (new_sites w3 bB (by omega) c1 k hk).1
    · exact (new_sites w3 bB (by omega) b1 k hk).1
  have seV : seI V = seI v2 := by unfold seI; rw [vi 38 (by decide) (by decide)]
  have vfr : ∀ k : Nat, 64 ≤ k → k ≤ 73 → bel k t v2 V := fun k k1' k2' j _ => by rw [va, qa k (by omega) (by omega) (by omega)]
  have kJv2 : KP t J v2 := JB.tr w3 (Nat.le_refl _)
  have kJV : KP t J V := kJv2.ppr hpp t2 (by omega) (by have := kJv2.2.2.2.2.2.1.1; omega) (vi 18 (by decide) (by decide)) (fun k hk => by
    rcases hk with q | q | q
    · have := ns k (Or.inl q); omega
    · have := ns k (Or.inr q); omega
    · have q : k = (cdI v1).toNat := q
      omega) vfr
  have kw := ksv2.2.2.2.2.2.2.2.2.1
  have hww : ∀ w : Nat, (w : Int) < waI v2 → gv v2 58 w ≤ γ0 := fun w hw => by
    have e1 : waI v2 = waI s := by have : waI v2 = waI B2 := w4.wa; have : waI B2 = waI s := by { unfold waI; rw [B56] }; omega
    have := (hI.2.2.2.1.2.2.2.2.2.2.2.2.1 w (by omega)).2.2.2
    have e : gv v2 58 w = gv s 58 w := by unfold gv; rw [kw.2.2 w (by omega)]
    omega
  have L2u : LAT noZ U0 u1 v2 := LUB.kpg w3 tnB (fun γ b L k h1 h2 h3 h4 => by have := w4.go; omega)
  obtain ⟨W, hW⟩ : ∃ W, W = V.setI 38 (s.i 38) := ⟨_, rfl⟩
  have iW : ∀ j : Nat, j ≠ 38 → W.i j = V.i j := fun j hj => by rw [hW]; exact if_neg hj
  have W38 : W.i 38 = s.i 38 := by rw [hW]; rfl
  have aW : W.a = V.a := by rw [hW]; rfl
  have tVW : TBS V W := by rw [hW]; exact TBS.i38 V _
  rw [← hW]
  clear hW
  have seW : seI W = seI s := by unfold seI; rw [W38]
  have se2 := ksv2.2.2.2.2.2.1.1
  have ksV : KP t s V := kJ.tr kJV (Nat.le_refl _)
  have kW : KP t s W := ksV.tbs tVW (by omega) (fun q => by rw [iW 18 (by decide)]; exact q) (fun k _ _ j _ => by rw [aW])
  have eqW : EQT v2 W := ⟨fun k h1 h2 => (tVW.1.1 k h1 h2).trans (hpp.1.1 k h1 h2), tVW.1.2.1.trans hpp.1.2.1, fun j h1' h2' h3' h4' h5' h6' => (tVW.1.2.2 j h1' h2' h3' h4' h5' h6').trans (hpp.1.2.2 j h1' h2' h3' h4' h5' h6')⟩
  have gW : goI W = γ0 := by rw [tVW.go]; exact v43
  have cW : cdI W = cdI v2 + 1 := by rw [tVW.cd]; exact cV
  have chW : CHN v2 W := fun γ b L y hγ hI' hy => by
    have := hchn γ b L y (by omega) hI' hy
    rw [aW]
    exact this
  have slW : slI W = slI v2 := eqW.sl
  have snW : SNW s W := SNW.eq W38 kW.2.2.2.2.2.1.2.1
  have zJ : ¬ 0 ≤ v2.i 18 → ¬ 0 ≤ J.i 18 := fun q r => q (kJv2.1.2 r)
  have z1 : ¬ 0 ≤ v2.i 18 → ¬ 0 ≤ v1.i 18 := fun q r => q (w3.1.2 (kB1.1.2 r))
  have zu : ¬ 0 ≤ v2.i 18 → ¬ 0 ≤ u1.i 18 := fun q r => q (w3.1.2 (u18 r))
  have fin : ∀ y : Int32, (y = 0 ∨ y = 1) → (z = 0 → y = 1) → (v2.a 50 γ0 = 1 → y = 1) → ok (((f_X12_over N W y).bind fun p => f_X12_fors_469 N p).bind fun p => f_X12_parse_10 N m p) P := by
    intro y hy h1 h2
    show ok (((f_X12_over N W y).bind fun p => some p).bind fun p => f_X12_parse_10 N m p) P
    refine LEND0 (x := y) h9 hy hC hI eqW chW (by omega) (by omega) (by omega) kW w1 (fun j j1 j2 j3 _ => by rw [iW j j2]; exact vi j j1 j3) w2 ksv2 (w4.1.trans B19) ?_ (w4.2.2.2.trans B56) (by omega) snW ra2 ?_ (by have := kB.2.1.1; omega) (by omega) (fun q => ?_)
    · rw [iW 52 (by decide), vi 52 (by decide) (by decide), w4.2.2.1]; exact B52
    · unfold RATE at w5; omega
    · have hppY : PPR γ0 Lc Lb (v2.a 70 t) x (fun k => k = (cdI v1).toNat) v2 (V.setI 75 y) := hpp.i (TBL.i75 V y).tbs
      have tl : TS J (V.setI 75 y) := by
        refine TS.forl (jt := z = 1) (xc' := v2.a 70 t) J0 kA cA A38 A52 fA (fun hj => te (z1 q) ?_) (fun hj => ?_) k1 i1 d1 f1 f1' le1 kU cU U38 U52 fU (tu (zu q)) ku fu1 kB1 cB B21q B21r B22r hxr B21u B22u hxi B21s JB B38 ?_ fB (by omega) (by omega) (by omega) B44 ?_ bB (w9 q) w3 w1 w4 w7 L2u hppY cV (by rw [e70]; exact B70) ?_ ?_ ?_ ?_ (by rw [e70]; exact B70) hww (fun hj => ?_) (fun hq => h2 hq) ?_ (vi 18 (by decide) (by decide)) (fun k k1' k2' j hj => vfr k k1' k2' j hj)
        · rcases hz with r | r
          · exact r
          · exact absurd r.1 hj
        · rcases hz with r | r
          · rw [r] at hj; exact absurd hj (by decide)
          · exact r.2
        · rw [B52]; exact sJ.2.2.1.symm
        · rw [B47]; exact sJ.de.symm
        · show x.toInt = cdI V; omega
        · show V.a 22 (cdI v1).toNat = x; rw [va]; exact qk1
        · show V.a 21 (cdI v2).toNat = 15; rw [va]; exact q15
        · show V.a 22 (cdI v2).toNat = v2.a 70 t; rw [va]; exact qfp
        · show y = 1
          rcases hz with r | r
          · exact h1 r
          · exact absurd r.1 hj
        · show seI v1 ≤ seI V
          have := (kB1.tr w3 (Nat.le_refl _)).2.2.2.2.2.1.1
          omega
      have sJV : SAME J (V.setI 75 y) := by
        refine ⟨?_, ?_, ?_, ?_⟩
        · show V.i 19 = J.i 19
          rw [vi 19 (by decide) (by decide), w4.1, B19]; exact sJ.1.symm
        · show V.i 43 = J.i 43
          rw [sJ.2.1]; exact Int32.toInt_inj.mp (show goI V = goI s by omega)
        · show V.i 52 = J.i 52
          rw [vi 52 (by decide) (by decide), w4.2.2.1, B52]; exact sJ.2.2.1.symm
        · show V.i 56 = J.i 56
          rw [vi 56 (by decide) (by decide), w4.2.2.2, B56]; exact sJ.2.2.2.symm
      have tS : TS s (V.setI 75 y) := TS.seq (tsJ (zJ q)) tl kJ (kJV.i75 y) sJ sJV nJ hI.2.2.2.1 tJ J75 fJ (by omega)
      refine tS.tbs (TBL.rf s) (((TBL.i75 V y).sy.tbs.tr tVW).tr (TBL.i75 W y).tbs) rfl (Int.le_refl _) (by omega) (fun r => r)
  by_cases cz : z = 0
  · rw [if_pos cz]
    exact fin 1 (Or.inr rfl) (fun _ => rfl) (fun _ => rfl)
  · rw [if_neg cz]
    by_cases c50 : v2.a 50 γ0 = 0
    · rw [if_pos c50]
      exact fin 0 (Or.inl rfl) (fun q => absurd q cz) (fun q => by rw [c50] at q; exact absurd q (by decide))
    · rw [if_neg c50]
      exact fin 1 (Or.inr rfl) (fun _ => rfl) (fun _ => rfl)
