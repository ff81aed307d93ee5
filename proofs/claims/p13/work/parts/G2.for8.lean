section
/-! reading: for: its end -/
theorem FO8 {N : Nat} (hN : 4000 ≤ N) {m : Nat} {s J A v1 U0 u1 B2 v2 : RS} {xr xi : Int32} {t γ0 : Nat} {P : RS → Prop} {z : Int32} (hI : INV s) (h9 : t < 998)
  (kJ : KP t s J) (sJ : SAME s J) (nJ : SNW s J) (tJ : TAB J) (J75 : J.i 75 = 1) (fJ : fr s ≤ fr J) (tsJ : ¬ 0 ≤ J.i 18 → TS s J) (J0 : 0 ≤ cdI J) (JB : KP t J B2)
  (kA : KP t J A) (cA : cdI A = cdI J) (A38 : A.i 38 = J.i 38) (A52 : A.i 52 = J.i 52) (fA : fr J ≤ fr A) (te : ¬ 0 ≤ v1.i 18 → z = 0 → TE A v1) (hz : z = 0 ∨ z = 1 ∧ cdI v1 = cdI A + 1 ∧ v1.a 21 (cdI A).toNat = 2 ∧ v1.a 22 (cdI A).toNat = 1) (k1 : KP t A v1) (i1 : INV v1) (d1 : v1.i 52 = J.i 52) (f1 : fr A ≤ fr v1) (f1' : fr J + 2 ≤ fr v1) (le1 : cdI A ≤ cdI v1)
  (kU : KP t v1 U0) (cU : cdI U0 = cdI v1 + 2) (U38 : U0.i 38 = J.i 38) (U52 : U0.i 52 = J.i 52) (fU : fr v1 ≤ fr U0) (tu : ¬ 0 ≤ u1.i 18 → TUP U0 u1) (ku : KP t U0 u1) (fu1 : fr U0 ≤ fr u1) (kB1 : KP t v1 B2) (cB : cdI B2 = cdI u1 + 2) (B21q : B2.a 21 (cdI v1).toNat = 13) (B21r : B2.a 21 (cdI v1 + 1).toNat = 15) (B22r : B2.a 22 (cdI v1 + 1).toNat = xr) (hxr : xr.toInt = cdI u1 + 1) (B21u : B2.a 21 (cdI u1).toNat = 15) (B22u : B2.a 22 (cdI u1).toNat = xi) (hxi : xi.toInt = cdI A) (B21s : B2.a 21 (cdI u1 + 1).toNat = 1) (B38 : B2.i 38 = J.i 38) (B19 : B2.i 19 = s.i 19) (B52 : B2.i 52 = s.i 52) (B56 : B2.i 56 = s.i 56) (fB : fr u1 ≤ fr B2) (tkB : tkI s ≤ tkI B2) (u18 : 0 ≤ u1.i 18 → 0 ≤ B2.i 18) (g0 : (γ0 : Int) = goI s) (gv1 : goI v1 = goI s) (gB : goI B2 = goI s + 1) (B44 : B2.a 44 γ0 = 0) (B47 : gv B2 47 γ0 = deI s) (bB : ∀ b : Bool, hd B2 b γ0 = -1) (raB : RATE s B2) (raS : cdI B2 + 1 - cdI s ≤ 3 * (fr B2 - fr s)) (B64 : B2.a 64 t = 12) (B67 : (B2.a 67 t).toInt = cdI v1) (B70 : (B2.a 70 t).toInt = cdI U0) (B71 : B2.a 71 t = s.i 38) (B72 : B2.a 72 t = z) (B73 : (B2.a 73 t).toInt = γ0) (snB : SNW s B2) (LUB : LAT noZ U0 u1 B2) (tnB : TN B2) (hv : PCS t 8 B2 v2) (hC : ∀ (u : RS), PS t s u → fr v2 ≤ fr u → ok (f_X12_parse_10 N m u) P) : ok (f_X12_parse_10 N (m + 1) v2) P := by
  have hv' := hv
  obtain ⟨w1, w2, w3, w4, w5, w6, w7, w8, w9, w10, w11⟩ := hv'
  have fv := w1.1.f0
  have cv := i1.cd
  have cw := w1.cd
  have cs := hI.cd
  have leU := ku.2.1.1
  have le2 := w3.2.1.1
  have gos := hI.2.2.2.2.2.2.2.2.2.2.2.1
  have hf := hI.1.f0
  have kB : KP t s B2 := kJ.tr JB (Nat.le_refl _)
  have ek : ((cdI v1).toNat : Int) = cdI v1 := Int.toNat_of_nonneg cv.1
  have g2 : goI v2 = (γ0 : Int) + 1 := by have := w4.go; omega
  have gJ : goI J = goI s := sJ.go
  have e73 : (v2.a 73 t).toInt = γ0 := by rw [w11 73 (by omega) (by omega) (by omega)]; exact B73
  have n73 := k_nat e73
  have ib73 : ib (v2.a 73 t) 460 := ⟨by omega, by omega⟩
  have k67 : (v2.a 67 t).toInt = (cdI v1).toNat := by rw [w11 67 (by omega) (by omega) (by omega), B67, ek]
  have n67 := k_nat k67
  have e70 : v2.a 70 t = B2.a 70 t := w11 70 (by omega) (by omega) (by omega)
  have e21 : v2.a 21 (cdI v1).toNat = 13 := by rw [w3.2.1.2.1 _ (by omega)]; exact B21q
  refine lp_12 w2 (by omega) w1.2.2.1 ((w11 64 (by omega) (by omega) (by omega)).trans B64) ?_
  unfold f_X12_fors
  rw [if_pos (tp_ib w2 (by omega)), tp_nat w2, if_neg (by rw [w10]; decide), if_neg (by rw [w10]; decide), if_neg (by rw [w10]; decide), if_neg (by rw [w10]; decide), if_neg (by rw [w10]; decide), if_neg (by rw [w10]; decide), if_neg (by rw [w10]; decide), if_neg (by rw [w10]; decide), if_pos w10, if_pos ib73, n73]
  obtain ⟨Lc, Lb, Q1, Q2, Q, x, c1, b1, c2, b2, e1, a1, e2, e20, a2, e3, qi, qb, qc, xc, qa, q21, q15, qfp, q22, qLc, qLb, qk1⟩ := PATCHES (fp := v2.a 70 t) hN w1 (γ0 := γ0) (k1 := (cdI v1).toNat) (by omega) (by omega) (by rw [e21]; decide)
  rw [e1]
  show ok (((f_X12_emit N Q1 15 (Q1.a 70 t)).bind fun p57 => if ib (p57.2.a 67 t) 3000 then (f_X12_patch N (RS.setA p57.2 22 (((p57.2.a 67 t) : Int32).toNatClampNeg) (p57.2.i 20)) (p57.2.a 48 γ0) (p57.2.i 20)).bind fun p60 => (if (p60.a 72 t) = 0 then (f_X12_over N (RS.setI (RS.setI p60 43 ((p60.i 43) - 1)) 38 (p60.a 71 t)) 1).bind fun p63 => f_X12_fors_469 N p63 else (if (p60.a 50 γ0) = 0 then (f_X12_over N (RS.setI (RS.setI p60 43 ((p60.i 43) - 1)) 38 (p60.a 71 t)) 0).bind fun p66 => f_X12_fors_469 N p66 else (f_X12_over N (RS.setI (RS.setI p60 43 ((p60.i 43) - 1)) 38 (p60.a 71 t)) 1).bind fun p68 => f_X12_fors_469 N p68)) else none).bind fun p => f_X12_parse_10 N m p) P
  rw [a1 70 (by decide), e2]
  show ok ((if ib (Q2.a 67 t) 3000 then (f_X12_patch N (RS.setA Q2 22 (((Q2.a 67 t) : Int32).toNatClampNeg) (Q2.i 20)) (Q2.a 48 γ0) (Q2.i 20)).bind fun p60 => (if (p60.a 72 t) = 0 then (f_X12_over N (RS.setI (RS.setI p60 43 ((p60.i 43) - 1)) 38 (p60.a 71 t)) 1).bind fun p63 => f_X12_fors_469 N p63 else (if (p60.a 50 γ0) = 0 then (f_X12_over N (RS.setI (RS.setI p60 43 ((p60.i 43) - 1)) 38 (p60.a 71 t)) 0).bind fun p66 => f_X12_fors_469 N p66 else (f_X12_over N (RS.setI (RS.setI p60 43 ((p60.i 43) - 1)) 38 (p60.a 71 t)) 1).bind fun p68 => f_X12_fors_469 N p68)) else none : Option RS).bind fun p => f_X12_parse_10 N m p) P
  rw [a2 67 (by decide) (by decide) (by decide), a2 48 (by decide) (by decide) (by decide), if_pos (show ib (v2.a 67 t) 3000 from ⟨by omega, by omega⟩), n67, e20, e3]
  show ok ((if (Q.a 72 t) = 0 then (f_X12_over N (RS.setI (RS.setI Q 43 ((Q.i 43) - 1)) 38 (Q.a 71 t)) 1).bind fun p63 => f_X12_fors_469 N p63 else (if (Q.a 50 γ0) = 0 then (f_X12_over N (RS.setI (RS.setI Q 43 ((Q.i 43) - 1)) 38 (Q.a 71 t)) 0).bind fun p66 => f_X12_fors_469 N p66 else (f_X12_over N (RS.setI (RS.setI Q 43 ((Q.i 43) - 1)) 38 (Q.a 71 t)) 1).bind fun p68 => f_X12_fors_469 N p68) : Option RS).bind fun p => f_X12_parse_10 N m p) P
  have q72 : Q.a 72 t = z := by rw [qa 72 (by decide) (by decide) (by decide), w11 72 (by omega) (by omega) (by omega)]; exact B72
  have q71 : Q.a 71 t = s.i 38 := by rw [qa 71 (by decide) (by decide) (by decide), w11 71 (by omega) (by omega) (by omega)]; exact B71
  have q50 : Q.a 50 = v2.a 50 := qa 50 (by decide) (by decide) (by decide)
  rw [q72, q71, q50]
  obtain ⟨V, hV⟩ : ∃ V, V = RS.setI Q 43 ((Q.i 43) - 1) := ⟨_, rfl⟩
  have va : V.a = Q.a := by rw [hV]; rfl
  have vi : ∀ j : Nat, j ≠ 20 → j ≠ 43 → V.i j = v2.i j := fun j h1 h2 => by rw [hV]; exact (if_neg h2).trans (qi j h1)
  have v20 : V.i 20 = Q.i 20 := by rw [hV]; rfl
  have v43 : goI V = γ0 := by
    have e : V.i 43 = v2.i 43 - 1 := by rw [hV]; show Q.i 43 - 1 = _; rw [qi 43 (by decide)]
    have e1' : (1 : Int32).toInt = 1 := by decide
    have g2' : (v2.i 43).toInt = (γ0 : Int) + 1 := g2
    unfold goI
    rw [e, toInt_sub] <;> rw [e1'] <;> omega
  have vb : V.b = Q.b := by rw [hV]; rfl
  rw [← hV]
  clear hV
  have cV : cdI V = cdI v2 + 1 := by have : cdI V = cdI Q := by { unfold cdI; rw [v20] }; omega
  have hpp : PPR γ0 Lc Lb (v2.a 70 t) x (fun k => k = (cdI v1).toNat) v2 V := by
    refine ⟨⟨fun k h1 h2 => by rw [va]; exact qa k (by omega) (by omega) (by omega), by rw [vb, qb], fun j h1 h2 h3 h4 h5 h6 => vi j (by omega) h3⟩, by omega, v43, g2, c1, b1, fun k hk => by rw [va]; exact q21 k hk, fun k hk h1 h2 h3 => by rw [va]; exact q22 k hk h1 h2 h3, fun k hk => by rw [va]; exact qLc k hk, fun k hk => by rw [va]; exact qLb k hk, fun k hk => ?_⟩
    have hk : k = (cdI v1).toNat := hk
    rw [hk, e21]; decide
  have t2 := w1.2.2.2.1
  have hchn := hpp.chn t2
  have ksv2 : KP t s v2 := kB.tr w3 (Nat.le_refl _)
  have sn2 : SNW s v2 := snB.tr w6 kB w3
  have ra2 : RATE s v2 := raB.tr w5
  have lekA := k1.2.1.1
  have leJ := kA.2.1.1
  have les := kJ.2.1.1
  have leB := kB1.2.1.1
  have ns : ∀ k : Nat, k ∈ Lc ∨ k ∈ Lb → cdI B2 ≤ (k : Int) := fun k hk => by
    rcases hk with hk | hk
    · exact (new_sites w3 bB (by omega) c1 k hk).1
    · exact (new_sites w3 bB (by omega) b1 k hk).1
  have seV : seI V = seI v2 := by unfold seI; rw [vi 38 (by decide) (by decide)]
  have vfr : ∀ k : Nat, 64 ≤ k → k ≤ 73 → bel k t v2 V := fun k k1' k2' j _ => by rw [va, qa k (by omega) (by omega) (by omega)]
  have kJv2 : KP t J v2 := JB.tr w3 (Nat.le_refl _)
  have kJV : KP t J V := kJv2.ppr hpp t2 (by omega) (by have := kJv2.2.2.2.2.2.1.1; omega) (vi 18 (by decide) (by decide)) (fun k hk => by
    rcases hk with q | q | q
    · have := ns k (Or.inl q); omega
    · have := ns k (Or.inr q); omega
    · have q : k = (cdI v1).toNat := q
      omega) vfr
  have kw := ksv2.2.2.2.2.2.2.2.2.1
  have hww : ∀ w : Nat, (w : Int) < waI v2 → gv v2 58 w ≤ γ0 := fun w hw => by
    have e1 : waI v2 = waI s := by have : waI v2 = waI B2 := w4.wa; have : waI B2 = waI s := by { unfold waI; rw [B56] }; omega
    have := (hI.2.2.2.1.2.2.2.2.2.2.2.2.1 w (by omega)).2.2.2
    have e : gv v2 58 w = gv s 58 w := by unfold gv; rw [kw.2.2 w (by omega)]
    omega
  have L2u : LAT noZ U0 u1 v2 := LUB.kpg w3 tnB (fun γ b L k h1 h2 h3 h4 => by have := w4.go; omega)
  obtain ⟨W, hW⟩ : ∃ W, W = V.setI 38 (s.i 38) := ⟨_, rfl⟩
  have iW : ∀ j : Nat, j ≠ 38 → W.i j = V.i j := fun j hj => by rw [hW]; exact if_neg hj
  have W38 : W.i 38 = s.i 38 := by rw [hW]; rfl
  have aW : W.a = V.a := by rw [hW]; rfl
  have tVW : TBS V W := by rw [hW]; exact TBS.i38 V _
  rw [← hW]
  clear hW
  have seW : seI W = seI s := by unfold seI; rw [W38]
  have se2 := ksv2.2.2.2.2.2.1.1
  have ksV : KP t s V := kJ.tr kJV (Nat.le_refl _)
  have kW : KP t s W := ksV.tbs tVW (by omega) (fun q => by rw [iW 18 (by decide)]; exact q) (fun k _ _ j _ => by rw [aW])
  have eqW : EQT v2 W := ⟨fun k h1 h2 => (tVW.1.1 k h1 h2).trans (hpp.1.1 k h1 h2), tVW.1.2.1.trans hpp.1.2.1, fun j h1' h2' h3' h4' h5' h6' => (tVW.1.2.2 j h1' h2' h3' h4' h5' h6').trans (hpp.1.2.2 j h1' h2' h3' h4' h5' h6')⟩
  have gW : goI W = γ0 := by rw [tVW.go]; exact v43
  have cW : cdI W = cdI v2 + 1 := by rw [tVW.cd]; exact cV
  have chW : CHN v2 W := fun γ b L y hγ hI' hy => by
    have := hchn γ b L y (by omega) hI' hy
    rw [aW]
    exact this
  have slW : slI W = slI v2 := eqW.sl
  have snW : SNW s W := SNW.eq W38 kW.2.2.2.2.2.1.2.1
  have zJ : ¬ 0 ≤ v2.i 18 → ¬ 0 ≤ J.i 18 := fun q r => q (kJv2.1.2 r)
  have z1 : ¬ 0 ≤ v2.i 18 → ¬ 0 ≤ v1.i 18 := fun q r => q (w3.1.2 (kB1.1.2 r))
  have zu : ¬ 0 ≤ v2.i 18 → ¬ 0 ≤ u1.i 18 := fun q r => q (w3.1.2 (u18 r))
  have fin : ∀ y : Int32, (y = 0 ∨ y = 1) → (z = 0 → y = 1) → (v2.a 50 γ0 = 1 → y = 1) → ok (((f_X12_over N W y).bind fun p => f_X12_fors_469 N p).bind fun p => f_X12_parse_10 N m p) P := by
    intro y hy h1 h2
    show ok (((f_X12_over N W y).bind fun p => some p).bind fun p => f_X12_parse_10 N m p) P
    refine LEND0 (x := y) h9 hy hC hI eqW chW (by omega) (by omega) (by omega) kW w1 (fun j j1 j2 j3 _ => by rw [iW j j2]; exact vi j j1 j3) w2 ksv2 (w4.1.trans B19) ?_ (w4.2.2.2.trans B56) (by omega) snW ra2 ?_ (by have := kB.2.1.1; omega) (by omega) (fun q => ?_)
    · rw [iW 52 (by decide), vi 52 (by decide) (by decide), w4.2.2.1]; exact B52
    · unfold RATE at w5; omega
    · have hppY : PPR γ0 Lc Lb (v2.a 70 t) x (fun k => k = (cdI v1).toNat) v2 (V.setI 75 y) := hpp.i (TBL.i75 V y).tbs
      have tl : TS J (V.setI 75 y) := by
        refine TS.forl (jt := z = 1) (xc' := v2.a 70 t) J0 kA cA A38 A52 fA (fun hj => te (z1 q) ?_) (fun hj => ?_) k1 i1 d1 f1 f1' le1 kU cU U38 U52 fU (tu (zu q)) ku fu1 kB1 cB B21q B21r B22r hxr B21u B22u hxi B21s JB B38 ?_ fB (by omega) (by omega) (by omega) B44 ?_ bB (w9 q) w3 w1 w4 w7 L2u hppY cV (by rw [e70]; exact B70) ?_ ?_ ?_ ?_ (by rw [e70]; exact B70) hww (fun hj => ?_) (fun hq => h2 hq) ?_ (vi 18 (by decide) (by decide)) (fun k k1' k2' j hj => vfr k k1' k2' j hj)
        · rcases hz with r | r
          · exact r
          · exact absurd r.1 hj
        · rcases hz with r | r
          · rw [r] at hj; exact absurd hj (by decide)
          · exact r.2
        · rw [B52]; exact sJ.2.2.1.symm
        · rw [B47]; exact sJ.de.symm
        · show x.toInt = cdI V; omega
        · show V.a 22 (cdI v1).toNat = x; rw [va]; exact qk1
        · show V.a 21 (cdI v2).toNat = 15; rw [va]; exact q15
        · show V.a 22 (cdI v2).toNat = v2.a 70 t; rw [va]; exact qfp
        · show y = 1
          rcases hz with r | r
          · exact h1 r
          · exact absurd r.1 hj
        · show seI v1 ≤ seI V
          have := (kB1.tr w3 (Nat.le_refl _)).2.2.2.2.2.1.1
          omega
      have sJV : SAME J (V.setI 75 y) := by
        refine ⟨?_, ?_, ?_, ?_⟩
        · show V.i 19 = J.i 19
          rw [vi 19 (by decide) (by decide), w4.1, B19]; exact sJ.1.symm
        · show V.i 43 = J.i 43
          rw [sJ.2.1]; exact Int32.toInt_inj.mp (show goI V = goI s by omega)
        · show V.i 52 = J.i 52
          rw [vi 52 (by decide) (by decide), w4.2.2.1, B52]; exact sJ.2.2.1.symm
        · show V.i 56 = J.i 56
          rw [vi 56 (by decide) (by decide), w4.2.2.2, B56]; exact sJ.2.2.2.symm
      have tS : TS s (V.setI 75 y) := TS.seq (tsJ (zJ q)) tl kJ (kJV.i75 y) sJ sJV nJ hI.2.2.2.1 tJ J75 fJ (by omega)
      refine tS.tbs (TBL.rf s) (((TBL.i75 V y).sy.tbs.tr tVW).tr (TBL.i75 W y).tbs) rfl (Int.le_refl _) (by omega) (fun r => r)
  by_cases cz : z = 0
  · rw [if_pos cz]
    exact fin 1 (Or.inr rfl) (fun _ => rfl) (fun _ => rfl)
  · rw [if_neg cz]
    by_cases c50 : v2.a 50 γ0 = 0
    · rw [if_pos c50]
      exact fin 0 (Or.inl rfl) (fun q => absurd q cz) (fun q => by rw [c50] at q; exact absurd q (by decide))
    · rw [if_neg c50]
      exact fin 1 (Or.inr rfl) (fun _ => rfl) (fun _ => rfl)
end
section
/-! reading: for: the head's end, the body -/
/-- inside a head's signs: one sign more is begun -/
def MF (t : Nat) (s u : RS) : Prop := INV u ∧ tpI u = t ∧ KP t s u ∧ (u.i 19 = s.i 19 + 1 ∧ u.i 43 = s.i 43 ∧ u.i 52 = s.i 52 ∧ u.i 56 = s.i 56) ∧ SNW s u ∧ RATE s u ∧ fr s + 1 ≤ fr u ∧ tkI s + 1 ≤ tkI u ∧ op u = op s + 1 ∧ bel 46 (goI s) s u
theorem FO7 {N b : Nat} (hN : 4000 ≤ N) (hs : 1 ≤ b → RUNS N (b - 1)) {m : Nat} {s J A v1 U0 c : RS} {t : Nat} {P : RS → Prop} {z : Int32} (hI : INV s) (hp : PRS s) (h9 : t < 998) (hb : 2 * (t : Int) ≤ fr s + 12 * op s + 2) (hcb : 900 - fr s ≤ b) (hF : ∀ u, FS' s u → P u)
  (kJ : KP t s J) (sJ : SAME s J) (nJ : SNW s J) (tJ : TAB J) (J75 : J.i 75 = 1) (fJ : fr s ≤ fr J) (tsJ : ¬ 0 ≤ J.i 18 → TS s J) (J0 : 0 ≤ cdI J)
  (kA : KP t J A) (cA : cdI A = cdI J) (A38 : A.i 38 = J.i 38) (A52 : A.i 52 = J.i 52) (fA : fr J ≤ fr A) (te : ¬ 0 ≤ v1.i 18 → z = 0 → TE A v1) (hz : z = 0 ∨ z = 1 ∧ cdI v1 = cdI A + 1 ∧ v1.a 21 (cdI A).toNat = 2 ∧ v1.a 22 (cdI A).toNat = 1) (k1 : KP t A v1) (i1 : INV v1) (d1 : v1.i 52 = J.i 52) (f1 : fr A ≤ fr v1) (f1' : fr J + 2 ≤ fr v1) (le1 : cdI A ≤ cdI v1) (gv1 : goI v1 = goI s)
  (kU : KP t v1 U0) (cU : cdI U0 = cdI v1 + 2) (U38 : U0.i 38 = J.i 38) (U52 : U0.i 52 = J.i 52) (fU : fr v1 ≤ fr U0) (U21q : U0.a 21 (cdI v1).toNat = 13) (U21r : U0.a 21 (cdI v1 + 1).toNat = 15) (tu : ¬ 0 ≤ c.i 18 → TUP U0 c) (ku : KP t U0 c) (fc : fr U0 ≤ fr c) (mc : MF t s c) (c38 : c.i 38 = J.i 38) (c64 : c.a 64 t = 12) (c65 : c.a 65 t = 7) (c66 : (c.a 66 t).toInt = cdI A) (c67 : (c.a 67 t).toInt = cdI v1) (c68 : (c.a 68 t).toInt = cdI v1 + 1) (c70 : (c.a 70 t).toInt = cdI U0) (c71 : c.a 71 t = s.i 38) (c72 : c.a 72 t = z) (hn : 36000 + 1 ≤ (m : Int) + 40 * fr c) (hC : ∀ (m' : Nat) (u : RS), PS t s u → fr c ≤ fr u → (m : Int) + 40 * fr c ≤ m' + 40 * fr u → ok (f_X12_parse_10 N m' u) P) : ok (f_X12_parse_10 N (m + 1) c) P := by
  have hN1 : 1000 ≤ N := by omega
  obtain ⟨a1, a2, a3, a4, a5, a6, a7, a8, a9, a10⟩ := mc
  have fcf := a1.1.f0
  have hf := hI.1.f0
  have cc := a1.cd
  have cv := i1.cd
  have cs := hI.cd
  have leU := ku.2.1.1
  have gos := hI.2.2.2.2.2.2.2.2.2.2.2.1
  have des := hI.2.2.2.2.2.2.2.2.2.2.2.2.1
  have hop := hI.op
  have kvc : KP t v1 c := kU.tr ku (Nat.le_refl _)
  have ekr : ((cdI v1 + 1).toNat : Int) = cdI v1 + 1 := Int.toNat_of_nonneg (by omega)
  refine lp_12 a2 (by omega) a1.2.2.1 c64 ?_
  unfold f_X12_fors
  rw [if_pos (tp_ib a2 (by omega)), tp_nat a2, if_neg (by rw [c65]; decide), if_neg (by rw [c65]; decide), if_neg (by rw [c65]; decide), if_neg (by rw [c65]; decide), if_neg (by rw [c65]; decide), if_neg (by rw [c65]; decide), if_neg (by rw [c65]; decide), if_pos c65, p_em 15 (c.a 66 t) cc.1 cc.2.2]
  obtain ⟨E, hE⟩ : ∃ E, E = EM c 15 (c.a 66 t) := ⟨_, rfl⟩
  have lE : LXI E := by rw [hE]; exact LXI.em a1.1
  have iE : ∀ j : Nat, j ≠ 20 → E.i j = c.i j := fun j hj => by rw [hE]; exact EM.i hj
  have cE : cdI E = cdI c + 1 := by rw [hE]; exact EM.cd cc.1 cc.2.2
  have kE : KP t c E := by rw [hE]; exact (KP.rf t c).em cc.1 cc.2.2
  have tE : TAB E := by rw [hE]; exact a1.2.2.2.1.em cc.1 cc.2.2
  have aE : ∀ k : Nat, k ≠ 21 → k ≠ 22 → k ≠ 23 → E.a k = c.a k := fun k h1 h2 h3 => by rw [hE, EM.a h1 h2 h3]
  have E21 : ∀ j : Nat, E.a 21 j = if j = (cdI c).toNat then 15 else c.a 21 j := fun j => by rw [hE]; exact EM.a21 j
  have E22 : E.a 22 (cdI c).toNat = c.a 66 t := by rw [hE, EM.a22, if_pos rfl]
  show ok (((f_X12_shut N (EM c 15 (c.a 66 t)) 41).bind fun p44 => if ib (p44.2.a 68 t) 3000 then (f_X12_emit N (RS.setA p44.2 22 (((p44.2.a 68 t) : Int32).toNatClampNeg) (p44.2.i 20)) 1 0).bind fun p47 => (f_X12_loopGoal N p47.2).bind fun p49 => (f_X12_body N (RS.setA p49.2 73 t p49.1) 8).bind fun p51 => some p51 else none).bind fun p => f_X12_parse_10 N m p) P
  rw [← hE]
  clear hE
  obtain ⟨D0, eD, x1, x2, x3⟩ := p_sh hN1 lE 41 (by decide)
  rw [eD]
  obtain ⟨D, hD⟩ : ∃ D, D = D0.2 := ⟨_, rfl⟩
  show ok ((if ib (D0.2.a 68 t) 3000 then (f_X12_emit N (RS.setA D0.2 22 (((D0.2.a 68 t) : Int32).toNatClampNeg) (D0.2.i 20)) 1 0).bind fun p47 => (f_X12_loopGoal N p47.2).bind fun p49 => (f_X12_body N (RS.setA p49.2 73 t p49.1) 8).bind fun p51 => some p51 else none : Option RS).bind fun p => f_X12_parse_10 N m p) P
  rw [← hD] at x1 x2 x3 ⊢
  clear hD eD
  have aD : D.a = E.a := x1.1
  have d68 : D.a 68 t = c.a 68 t := by rw [aD, aE 68 (by decide) (by decide) (by decide)]
  have k68 : (D.a 68 t).toInt = ((cdI v1 + 1).toNat : Int) := by rw [d68, c68, ekr]
  have n68 := k_nat k68
  rw [if_pos (show ib (D.a 68 t) 3000 from ⟨by omega, by omega⟩), n68]
  have cD : cdI D = cdI c + 1 := x1.tbl.cd.trans cE
  have c21r : c.a 21 (cdI v1 + 1).toNat = 15 := by rw [ku.2.1.2.1 _ (by omega)]; exact U21r
  have c21q : c.a 21 (cdI v1).toNat = 13 := by rw [ku.2.1.2.1 _ (by omega)]; exact U21q
  have noD : ¬ D.a 21 (cdI v1 + 1).toNat = 36 := by rw [aD, E21, if_neg (by omega), c21r]; decide
  have tD : TAB D := tE.lx x1
  obtain ⟨H, hH⟩ : ∃ H, H = D.setA 22 (cdI v1 + 1).toNat (D.i 20) := ⟨_, rfl⟩
  have lH : LXI H := by rw [hH]; exact LXI.sA x1.2.2.2.1 _ _ _
  have iH : H.i = D.i := by rw [hH]; rfl
  have tH : TAB H := by rw [hH]; exact tD.hole noD
  have aH : ∀ k : Nat, k ≠ 22 → H.a k = D.a k := fun k hk => by rw [hH]; exact setA_nk hk
  have H22 : ∀ j : Nat, j ≠ (cdI v1 + 1).toNat → H.a 22 j = D.a 22 j := fun j hj => by rw [hH]; exact setA_ne hj
  have H22r : H.a 22 (cdI v1 + 1).toNat = D.i 20 := by rw [hH]; exact setA_at
  have kvH : KP t v1 H := by rw [hH]; exact ((kvc.tr kE (Nat.le_refl _)).lx x1).hole (by omega) noD
  have ksH : KP t s H := by rw [hH]; exact ((a3.tr kE (Nat.le_refl _)).lx x1).hole (by have := (kJ.tr (kA.tr k1 (Nat.le_refl _)) (Nat.le_refl _)).2.1.1; omega) noD
  have LH : LAT noZ U0 c H := by rw [hH]; exact (((LAT.rf noZ U0 c).kp kE a1.tn (by unfold goI; rw [iE 43 (by decide)]; exact Int.le_refl _)).kp ((KP.rf t E).lx x1) tE.1.1 (by unfold goI; rw [x1.2.2.1 43 (by omega) (by omega)]; exact Int.le_refl _)).hole noD (Or.inl (by omega))
  rw [← hH]
  clear hH
  have cH : cdI H = cdI c + 1 := by have : cdI H = cdI D := by { unfold cdI; rw [iH] }; omega
  rw [p_em 1 0 (by omega) (by omega)]
  obtain ⟨U, hU⟩ : ∃ U, U = EM H 1 0 := ⟨_, rfl⟩
  have lU : LXI U := by rw [hU]; exact LXI.em lH
  have iU : ∀ j : Nat, j ≠ 20 → U.i j = D.i j := fun j hj => by rw [hU, EM.i hj, iH]
  have cUU : cdI U = cdI c + 2 := by rw [hU, EM.cd (by omega) (by omega)]; omega
  have kvU : KP t v1 U := by rw [hU]; exact kvH.em cv.1 (by omega)
  have ksU : KP t s U := by rw [hU]; exact ksH.em cs.1 (by omega)
  have tU : TAB U := by rw [hU]; exact tH.em (by omega) (by omega)
  have aU : ∀ k : Nat, k ≠ 21 → k ≠ 22 → k ≠ 23 → U.a k = c.a k := fun k h1 h2 h3 => by rw [hU, EM.a h1 h2 h3, aH k h2, aD, aE k h1 h2 h3]
  have UU21 : ∀ j : Nat, U.a 21 j = if j = (cdI H).toNat then 1 else H.a 21 j := fun j => by rw [hU]; exact EM.a21 j
  have UU22 : ∀ j : Nat, U.a 22 j = if j = (cdI H).toNat then 0 else H.a 22 j := fun j => by rw [hU]; exact EM.a22 j
  have kHU : KP t H U := by rw [hU]; exact (KP.rf t H).em (by omega) (by omega)
  show ok (((f_X12_loopGoal N (EM H 1 0)).bind fun p49 => (f_X12_body N (RS.setA p49.2 73 t p49.1) 8).bind fun p51 => some p51).bind fun p => f_X12_parse_10 N m p) P
  rw [← hU]
  clear hU
  have iUc : ∀ j : Nat, (j < 10 ∨ 18 ≤ j) → j ≠ 19 → j ≠ 20 → U.i j = c.i j := fun j h1 h2 h3 => by rw [iU j h3, x1.2.2.1 j h1 h2, iE j h3]
  have LU : LAT noZ U0 c U := LH.kp kHU tH.1.1 (by unfold goI; rw [iU 43 (by decide), iH]; exact Int.le_refl _)
  have gU : goI U = goI s := by unfold goI; rw [iUc 43 (by omega) (by decide) (by decide), a4.2.1]
  have dU : deI U = deI s := by unfold deI; rw [iUc 52 (by omega) (by decide) (by decide), a4.2.2.1]
  have gos4 : goI U < 460 := by omega
  obtain ⟨V, eV, hV⟩ := p_lg (N := N) hN1 (u := U) (by omega) gos4
  rw [eV]
  show ok (((f_X12_body N (RS.setA V 73 t (U.i 43)) 8).bind fun p23 => some p23).bind fun p => f_X12_parse_10 N m p) P
  have F1 := hV.f (t := t) (s := s) ksU tU gos.1 gos4 (by omega)
  have F2 := hV.f (t := t) (s := v1) kvU tU (by omega) gos4 (by omega)
  have F3 := hV.f (t := t) (s := U) (KP.rf t U) tU (by omega) gos4 (by omega)
  obtain ⟨γ0, hγ0⟩ : ∃ γ0, γ0 = (U.i 43).toNatClampNeg := ⟨_, rfl⟩
  rw [← hγ0] at F1 F2 F3
  obtain ⟨p1, p2, p3, p4, p5, p6, p7, p8, p9, p10, p11, p12, p13⟩ := id F1
  have kvV := F2.2.2.2.2.2.2.2.2.2.2.2.1
  have kUV := F3.2.2.2.2.2.2.2.2.2.2.2.1
  have LV : LAT noZ U0 c V := LU.kpg kUV tU.1.1 (fun γ b L k h1 h2 h3 h4 => by
    have e : γ = γ0 := by omega
    subst e
    rw [p9 b] at h3
    have := ISCH.uniq h3 (show ISCH V (-1) [] from (show (-1 : Int) < 0 by omega))
    rw [this] at h4
    exact absurd h4 List.not_mem_nil)
  obtain ⟨B2, hB2⟩ : ∃ B2, B2 = V.setA 73 t (U.i 43) := ⟨_, rfl⟩
  have i2 : B2.i = V.i := by rw [hB2]; rfl
  have ab : ∀ k : Nat, k ≠ 73 → B2.a k = V.a k := fun k hk => by rw [hB2]; exact setA_nk hk
  have a73 : B2.a 73 t = U.i 43 := by rw [hB2]; exact setA_at
  have k2 : KP t s B2 := by rw [hB2]; exact p12.loc t _ (by omega) (by omega) (Nat.le_refl _)
  have kv2 : KP t v1 B2 := by rw [hB2]; exact kvV.loc t _ (by omega) (by omega) (Nat.le_refl _)
  have tb2 : TBL V B2 := by rw [hB2]; exact TBL.loc V t _ (by omega) (by omega)
  have b2 : B2.b = V.b := by rw [hB2]; rfl
  rw [← hB2]
  clear hB2
  have ib2 : ∀ j : Nat, j ≠ 43 → B2.i j = U.i j := fun j hj => by rw [i2]; exact p3 j hj
  have l2 : LXI B2 := lU.of (ib2 2 (by decide)) (ib2 10 (by decide)) (ib2 11 (by decide)) (ib2 12 (by decide)) (ib2 14 (by decide)) (by rw [b2]; exact p4)
  have t2 : tpI B2 = t := by
    unfold tpI
    rw [ib2 63 (by decide), iUc 63 (by omega) (by decide) (by decide)]
    exact a2
  have r75 : B2.i 75 = 0 ∨ B2.i 75 = 1 := by rw [ib2 75 (by decide), iUc 75 (by omega) (by decide) (by decide)]; exact a1.r
  rcases BODY (N := N) (u := B2) 8 l2 t2 h9 with ⟨S, eS, y1, y2⟩ | ⟨eS, y1⟩
  · rw [eS]
    exact lp_f y2 (hF S (FS'.of k2.1.1 y1 y2 r75)) (by omega)
  rw [eS]
  show ok (f_X12_parse_10 N m (TH B2 t 8 2)) P
  have d15 : D.i 15 = 0 := by rw [← iU 15 (by decide), ← ib2 15 (by decide)]; exact y1
  obtain ⟨z1, ⟨z2, z3, z4⟩, z5⟩ := x3 d15
  have fE : fr E = fr c := by unfold fr; rw [iE 11 (by decide)]
  have tkE : tkI E = tkI c := by unfold tkI; rw [iE 17 (by decide)]
  have tkc := a1.tk
  have tkD := tk_add z2 ⟨by omega, by omega⟩
  have f2 : fr B2 = fr D := by unfold fr; rw [ib2 11 (by decide), iU 11 (by decide)]
  have tk2 : tkI B2 = tkI D := by unfold tkI; rw [ib2 17 (by decide), iU 17 (by decide)]
  have B19 : B2.i 19 = s.i 19 := by rw [ib2 19 (by decide), iU 19 (by decide), z5, iE 19 (by decide), a4.1, Int32.add_sub_cancel]
  have B38 : B2.i 38 = c.i 38 := by rw [ib2 38 (by decide), iUc 38 (by omega) (by decide) (by decide)]
  have B52 : B2.i 52 = s.i 52 := by rw [ib2 52 (by decide), iUc 52 (by omega) (by decide) (by decide)]; exact a4.2.2.1
  have B56 : B2.i 56 = s.i 56 := by rw [ib2 56 (by decide), iUc 56 (by omega) (by decide) (by decide)]; exact a4.2.2.2
  have cB2 : cdI B2 = cdI c + 2 := by have : cdI B2 = cdI U := by { unfold cdI; rw [ib2 20 (by decide)] }; omega
  have e2 : enI B2 = enI c := by unfold enI; rw [ib2 24 (by decide), iUc 24 (by omega) (by decide) (by decide)]
  have e3 : trI B2 = trI c := by unfold trI; rw [ib2 29 (by decide), iUc 29 (by omega) (by decide) (by decide)]
  have e4 : caI B2 = caI c := by unfold caI; rw [ib2 33 (by decide), iUc 33 (by omega) (by decide) (by decide)]
  have e5 : seI B2 = seI c := by unfold seI; rw [B38]
  have e6 : slI B2 = slI c := by unfold slI; rw [ib2 42 (by decide), iUc 42 (by omega) (by decide) (by decide)]
  have e8 : deI B2 = deI c := by unfold deI; rw [ib2 52 (by decide), iUc 52 (by omega) (by decide) (by decide)]
  have e9 : waI B2 = waI c := by unfold waI; rw [ib2 56 (by decide), iUc 56 (by omega) (by decide) (by decide)]
  have e10 : peI B2 = peI c := by unfold peI; rw [ib2 59 (by decide), iUc 59 (by omega) (by decide) (by decide)]
  have o2 : op B2 = op s := by unfold op; rw [B19]
  have gB : goI B2 = goI s + 1 := by have : goI B2 = goI V := by { unfold goI; rw [i2] }; omega
  have raB : RATE s B2 := by
    unfold RATE at a6 ⊢
    rw [cB2, e2, e3, e4, e6, e10, f2, tk2]
    omega
  have sab : ∀ y : Nat, B2.a 40 y = c.a 40 y := fun y => by rw [ab 40 (by decide), p5 40 (by omega), aU 40 (by decide) (by decide) (by decide)]
  have snB : SNW s B2 := by
    refine ⟨by have := a5.1; omega, fun y h1 h2 => ?_⟩
    have := a5.2 y h1 (by omega)
    unfold gv at this ⊢
    rw [sab y]; exact this
  have tB2 : TAB B2 := p13.tbl tb2 (fun γ hγ => by
    have := (p13.2.2.2.2.2.2.1 γ hγ).2
    have : deI B2 = deI V := by unfold deI; rw [i2]
    omega) r75
  have iB2 : INV B2 := by
    refine ⟨l2, hI.2.1.kp k2, y1, tB2, ?_⟩
    have ns := hI.2.2.2.2
    have q2 := k2.2.1.1
    have q3 := k2.2.2.1.1
    have q4 := k2.2.2.2.1.1
    have q5 := k2.2.2.2.2.1.1
    have q6 := k2.2.2.2.2.2.1
    have q10 := k2.2.2.2.2.2.2.2.2.2.1.1
    have dd : deI c = deI s := by unfold deI; rw [a4.2.2.1]
    have ww : waI c = waI s := by unfold waI; rw [a4.2.2.2]
    have sn1 := snB.1
    have q6a := q6.1
    have q6b := q6.2.1
    unfold RATE at raB
    unfold NUM at ns ⊢
    rw [o2, gB, e8, dd, e9, ww]
    omega
  have b46U : bel 46 (goI s) s U := fun j hj => by rw [aU 46 (by decide) (by decide) (by decide)]; exact a10 j hj
  have prl : PRL B2 := (PRS.lgr hp hV gU ksU.2.2.2.2.2.2.1.2.1 b46U (by omega) gos4).tbl tb2
  have f2f := iB2.1.f0
  refine CALLS (hs (by omega)) iB2 prl.prs t2 (by omega) (by omega) (by omega) (by omega) (fun u hu => hF u (FS'.kp k2 hu)) (fun m4 v2 hv2 hf2 hm4 => ?_)
  have fv2 := hv2.1.1.f0
  obtain ⟨m5, rfl⟩ : ∃ m5, m4 = m5 + 1 := ⟨m4 - 1, by omega⟩
  have push5 : ((m5 + 1 : Nat) : Int) = (m5 : Int) + 1 := by omega
  rw [push5] at hm4
  have loc : ∀ k : Nat, 64 ≤ k → k ≤ 72 → B2.a k t = c.a k t := fun k h1 h2 => by rw [ab k (by omega), p5 k (by omega), aU k (by omega) (by omega) (by omega)]
  have b21 : ∀ j : Nat, B2.a 21 j = U.a 21 j := fun j => by rw [ab 21 (by decide), p5 21 (by omega)]
  have b22 : ∀ j : Nat, B2.a 22 j = U.a 22 j := fun j => by rw [ab 22 (by decide), p5 22 (by omega)]
  have u21 : ∀ j : Nat, (j : Int) < cdI c → B2.a 21 j = c.a 21 j := fun j hj => by rw [b21, UU21, if_neg (by omega), aH 21 (by decide), aD, E21, if_neg (by omega)]
  have hdB : ∀ b : Bool, hd B2 b γ0 = -1 := fun b => by
    have : hd B2 b γ0 = hd V b γ0 := by
      unfold hd gv
      rw [ab _ (by rcases bk_cases b with e | e <;> rw [e] <;> decide)]
    rw [this]; exact p9 b
  refine FO8 (m := m5) (xr := D.i 20) (xi := c.a 66 t) (γ0 := γ0) (z := z) hN hI h9 kJ sJ nJ tJ J75 fJ tsJ J0 ((kA.tr k1 (Nat.le_refl _)).tr kv2 (Nat.le_refl _)) kA cA A38 A52 fA te hz k1 i1 d1 f1 f1' le1 kU cU U38 U52 fU tu ku fc kv2 cB2 ?_ ?_ ?_ cD ?_ ?_ c66 ?_ (B38.trans c38) B19 B52 B56 (by omega) (by omega) (fun q => by rw [ib2 18 (by decide), iUc 18 (by omega) (by decide) (by decide)]; exact q) (by omega) gv1 gB ?_ ?_ hdB raB ?_ ?_ ?_ ?_ ?_ ?_ ?_ snB (LV.tbs tb2.tbs p13.1.1) tB2.1.1 hv2 (fun u hu hf' => hC m5 u hu (by omega) (by omega))
  · rw [u21 _ (by omega)]; exact c21q
  · rw [u21 _ (by omega)]; exact c21r
  · rw [b22, UU22, if_neg (by omega)]; exact H22r
  · rw [b21, UU21, if_neg (by omega), aH 21 (by decide), aD, E21, if_pos rfl]
  · rw [b22, UU22, if_neg (by omega), H22 _ (by omega), aD]; exact E22
  · rw [b21, UU21, if_pos (by rw [cH])]
  · rw [ab 44 (by decide)]; exact p7
  · unfold gv
    rw [ab 47 (by decide), p8]
    exact dU
  · unfold RATE at a6; omega
  · rw [loc 64 (by omega) (by omega)]; exact c64
  · rw [loc 67 (by omega) (by omega)]; exact c67
  · rw [loc 70 (by omega) (by omega)]; exact c70
  · rw [loc 71 (by omega) (by omega)]; exact c71
  · rw [loc 72 (by omega) (by omega)]; exact c72
  · rw [a73]
    show goI U = γ0
    omega
end
section
/-! reading: for: the update -/
theorem SNW.tbl {s u w : RS} (h : SNW s u) (hw : TBL u w) : SNW s w := by
  refine ⟨by have := h.1; have := hw.se; have := hw.sl; omega, fun y h1 h2 => ?_⟩
  rw [hw.g (by decide)]
  exact h.2 y h1 (by have := hw.se; omega)
theorem MF.step {t : Nat} {s u w : RS} (h : MF t s u) (i : INV w) (tb : TBL u w) (k : KP t u w) (h19 : w.i 19 = u.i 19) (h52 : w.i 52 = u.i 52) (tp : tpI w = tpI u) (hf : fr u ≤ fr w) (tk : tkI u ≤ tkI w) (tk2 : tkI w - tkI u ≤ fr w - fr u) : MF t s w := by
  obtain ⟨a1, a2, a3, a4, a5, a6, a7, a8, a9, a10⟩ := h
  exact ⟨i, tp.trans a2, a3.tr k (Nat.le_refl _), ⟨h19.trans a4.1, (tb.2.2 43 (by omega) (by omega) (by omega) (by omega)).trans a4.2.1, h52.trans a4.2.2.1, (tb.2.2 56 (by omega) (by omega) (by omega) (by omega)).trans a4.2.2.2⟩, a5.tbl tb, a6.tr (tb.rate hf tk2), by omega, by omega, by unfold op at *; rw [h19]; exact a9, fun j hj => by rw [tb.1 46 (by omega)]; exact a10 j hj⟩
theorem MF.lx {t : Nat} {s u w : RS} (h : MF t s u) (i : INV w) (x : LX u w) (h19 : w.i 19 = u.i 19) (hf : fr u + 1 ≤ fr w) (tk : tkI w = tkI u + 1) : MF t s w := h.step i x.tbl ((KP.rf t u).lx x) h19 (x.2.2.1 52 (by omega) (by omega)) x.tp (by omega) (by omega) (by omega)
theorem MF.loc {t : Nat} {s u : RS} (h : MF t s u) {k : Nat} (v : Int32) (h1 : 64 ≤ k) (h2 : k ≤ 73) : MF t s (u.setA k t v) := h.step (h.1.loc t v h1 h2) (TBL.loc u t v h1 h2) ((KP.rf t u).loc t v h1 h2 (Nat.le_refl _)) rfl rfl rfl (Int.le_refl _) (Int.le_refl _) (by show tkI u - tkI u ≤ fr u - fr u; omega)
theorem MF.em {t : Nat} {s u : RS} {o x : Int32} (hI : INV s) (h : MF t s u) (hc : cdI u + 1 - cdI s ≤ 3 * (fr u - fr s)) : MF t s (EM u o x) := by
  obtain ⟨a1, a2, a3, a4, a5, a6, a7, a8, a9, a10⟩ := h
  have cs := hI.2.2.2.2.2.1
  have c0 := hI.cd
  have cu := a1.cd
  exact ⟨a1.em (by omega), a2, a3.em c0.1 cu.2.2, a4, a5, a6.em cu.1 cu.2.2 hc, a7, a8, a9, a10⟩
theorem MF.pc {t : Nat} {st : Int32} {s u v : RS} (h : MF t s u) (hg : goI u = goI s) (hv : PC t st u v) : MF t s v := by
  obtain ⟨a1, a2, a3, a4, a5, a6, a7, a8, a9, a10⟩ := h
  obtain ⟨v1, v2, v3, v4, v5, v6, v7, v8, v9, v10, v11, v12⟩ := hv
  refine ⟨v1, v2, a3.tr v3 (Nat.le_refl _), ⟨v4.1.trans a4.1, v4.2.1.trans a4.2.1, v4.2.2.1.trans a4.2.2.1, v4.2.2.2.trans a4.2.2.2⟩, a5.tr (SNW.eq v5 v3.2.2.2.2.2.1.2.1) a3 v3, a6.tr v6, by omega, by omega, by have := v4.eOp; omega, fun j hj => (v10.1 j (by omega)).trans (a10 j hj)⟩
theorem MF.go {t : Nat} {s u : RS} (h : MF t s u) : goI u = goI s := by unfold goI; rw [h.2.2.2.1.2.1]
theorem TUP.nil {s u : RS} (h : TBL s u) : TUP s u := by
  intro f C hA hC h9 o v rs hx
  refine COD.nil (fun g _ hE => ?_)
  have := hE.2
  rw [h.cd] at this
  exact this
theorem TUP.inc {s u : RS} {x : Int32} (hI : INV s) (hcd : cdI u = cdI s + 1) (e21 : u.a 21 (cdI s).toNat = 6) (e22 : u.a 22 (cdI s).toNat = x) (hx : SLT s x) : TUP s u := by
  intro f C hA hC h o v rs hc
  have c0 := hI.cd
  obtain ⟨h1, h2⟩ := hx.ok hI
  have ek : ((cdI s).toNat : Int) = cdI s := Int.toNat_of_nonneg c0.1
  obtain ⟨g1, g2, g3, g4⟩ := hA.cell (k := (cdI s).toNat) (by omega) (by omega) e21 e22 (by decide)
  have c := COD.ins (E := fun g => ENB s u f g v rs ∧ FL f g v (cdI u) (cdI u) h o rs) (C := C) hc g4 (fun g _ hE => ?_)
  · rw [ek] at c
    exact c
  · obtain ⟨⟨q1, q2⟩, q3⟩ := hE
    rw [hcd, ← ek] at q3
    exact ⟨okJ_6 (c := (h, o, v, false, rs)) g1 ⟨by rw [g2]; exact h1, by rw [g2]; exact h2 g q2, q3⟩, q1 _ (by omega)⟩
theorem TUP.sto {t : Nat} {s R v u : RS} {x : Int32} (hI : INV s) (kR : KP t s R) (cR : cdI R = cdI s) (R38 : R.i 38 = s.i 38) (R52 : R.i 52 = s.i 52) (fR : fr s ≤ fr R) (te : TE R v) (k2 : KP t R v) (i2 : INV v) (d2 : v.i 52 = s.i 52) (f2 : fr R + 1 ≤ fr v) (k3 : KP t v u) (hg : goI u ≤ goI v) (cu : cdI u = cdI v + 1) (e21 : u.a 21 (cdI v).toNat = 5) (e22 : u.a 22 (cdI v).toNat = x) (hx : SLT s x) : TUP s u := by
  intro f C hA hC h o lv rs hc
  have c0 := hI.cd
  have cv := i2.cd
  have fv := i2.1.f0
  have le := k2.2.1.1
  obtain ⟨h1, h2⟩ := hx.ok hI
  have ek : ((cdI v).toNat : Int) = cdI v := Int.toNat_of_nonneg cv.1
  obtain ⟨A1, C1⟩ := AG.mid hA hC kR k2 k3 i2.tn hg
  have hx2 := hc.2.1
  have c1 := te f C A1 C1 h o lv rs (hc.up h R52 fR (by omega) (by omega))
  obtain ⟨g1, g2, g3, g4⟩ := hA.cell (k := (cdI v).toNat) (o := 5) (x := x) (by omega) (by omega) e21 e22 (by decide)
  have c3 : COD f C (cdI v).toNat (h + 1) o lv rs (fun g => ENB s u f g lv rs ∧ FL f g lv (cdI u) (cdI u) h o rs) := by
    refine COD.ins (hc.up (h + 1) d2 (by omega) fv.2 (by omega)) g4 (fun g _ hE => ?_)
    obtain ⟨⟨q1, q2⟩, q3⟩ := hE
    rw [cu, ← ek] at q3
    exact ⟨okJ_5 (c := (h + 1, o, lv, false, rs)) g1 ⟨by rw [g2]; exact h1, by rw [g2]; exact h2 g q2, by show 1 ≤ h + 1; omega, q3⟩, q1 _ (by omega)⟩
  rw [← cR]
  exact COD.seq c1.cod c3 (fun g _ hE => hE) (fun g _ hE hF => ⟨hE.1.mid kR R38 (by omega), by rw [ek] at hF; exact hF⟩)
theorem SLT.kp {t : Nat} {s R : RS} {x : Int32} (h : SLT R x) (e : R.i 38 = s.i 38) (hk : KP t s R) : SLT s x := by
  obtain ⟨j, j1, j2, j3⟩ := h
  have es : seI R = seI s := by unfold seI; rw [e]
  have ks := hk.2.2.2.2.2.1
  exact ⟨j, by omega, by rw [← ks.2.2.1 j (by omega)]; exact j2, by rw [← ks.2.2.2 j (by omega)]; exact j3⟩
end
section
/-! reading: for: behind the condition -/
theorem FO5 {N b : Nat} (hN : 4000 ≤ N) (hx : 1 ≤ b → RUNE N 16 4 11 24 (b - 1)) (hs : 1 ≤ b → RUNS N (b - 1)) {m : Nat} {s J A v1 : RS} {t : Nat} {P : RS → Prop} {z : Int32} (hI : INV s) (hp : PRS s) (h9 : t < 998) (hb : 2 * (t : Int) ≤ fr s + 12 * op s + 2) (hcb : 900 - fr s ≤ b) (hF : ∀ u, FS' s u → P u)
  (kJ : KP t s J) (sJ : SAME s J) (nJ : SNW s J) (tJ : TAB J) (J75 : J.i 75 = 1) (fJ : fr s ≤ fr J) (tsJ : ¬ 0 ≤ J.i 18 → TS s J) (J0 : 0 ≤ cdI J)
  (kA : KP t J A) (cA : cdI A = cdI J) (A38 : A.i 38 = J.i 38) (A52 : A.i 52 = J.i 52) (fA : fr J ≤ fr A) (te : ¬ 0 ≤ v1.i 18 → z = 0 → TE A v1) (hz : z = 0 ∨ z = 1 ∧ cdI v1 = cdI A + 1 ∧ v1.a 21 (cdI A).toNat = 2 ∧ v1.a 22 (cdI A).toNat = 1) (k1 : KP t A v1) (f1 : fr A ≤ fr v1) (f1' : fr J + 2 ≤ fr v1) (le1 : cdI A ≤ cdI v1) (mv : MF t s v1) (v38 : v1.i 38 = J.i 38) (v64 : v1.a 64 t = 12) (v65 : v1.a 65 t = 5) (v66 : (v1.a 66 t).toInt = cdI A) (v71 : v1.a 71 t = s.i 38) (v72 : v1.a 72 t = z) (hn : 36000 + 5 ≤ (m : Int) + 40 * fr v1) (hC : ∀ (m' : Nat) (u : RS), PS t s u → fr v1 ≤ fr u → (m : Int) + 40 * fr v1 ≤ m' + 40 * fr u → ok (f_X12_parse_10 N m' u) P) : ok (f_X12_parse_10 N (m + 1) v1) P := by
  have hN1 : 1000 ≤ N := by omega
  obtain ⟨a1, a2, a3, a4, a5, a6, a7, a8, a9, a10⟩ := id mv
  have fvf := a1.1.f0
  have cv := a1.cd
  have cs := hI.cd
  have hop := hI.op
  have gv1 : goI v1 = goI s := mv.go
  refine lp_12 a2 (by omega) a1.2.2.1 v64 ?_
  unfold f_X12_fors
  rw [if_pos (tp_ib a2 (by omega)), tp_nat a2, if_neg (by rw [v65]; decide), if_neg (by rw [v65]; decide), if_neg (by rw [v65]; decide), if_neg (by rw [v65]; decide), if_neg (by rw [v65]; decide), if_pos v65, bind_some]
  unfold f_X12_forBehind
  rw [tp_nat a2]
  obtain ⟨M0, eM, x1, x2⟩ := NDO hN1 a1 59 (by decide)
  rw [eM]
  obtain ⟨M, hM⟩ : ∃ M, M = M0.2 := ⟨_, rfl⟩
  rw [← hM] at x1 x2
  have cM : cdI M = cdI v1 := x1.tbl.cd
  obtain ⟨F1, hF1⟩ : ∃ F1, F1 = (EM M 13 0).setA 67 t (M.i 20) := ⟨_, rfl⟩
  have c1 : cdI F1 = cdI v1 + 1 := by rw [hF1]; exact (EM.cd (u := M) (o := 13) (x := 0) (by omega) (by omega)).trans (by rw [cM])
  obtain ⟨F2, hF2⟩ : ∃ F2, F2 = EM F1 15 0 := ⟨_, rfl⟩
  have c2 : cdI F2 = cdI v1 + 2 := by rw [hF2, EM.cd (by omega) (by omega)]; omega
  obtain ⟨U, hU⟩ : ∃ U, U = (F2.setA 68 t (F1.i 20)).setA 70 t (F2.i 20) := ⟨_, rfl⟩
  show ok (((f_X12_emit N M0.2 13 0).bind fun p3 => if ib (v1.i 63) 1000 then (f_X12_emit N (RS.setA p3.2 67 t p3.1) 15 0).bind fun p6 => (if (p6.2.i 15) = 0 then (if (p6.2.i 10) = 41 then f_X12_forBehind_59 N (RS.setA (RS.setA p6.2 68 t p6.1) 70 t (p6.2.i 20)) (v1.i 63) else (if (p6.2.i 10) = 2 then (f_X12_can N (RS.setA (RS.setA p6.2 68 t p6.1) 70 t (p6.2.i 20)) 1).bind fun p40 => (if p40.1 = 0 then some p40.2 else f_X12_forBehind_89 N p40.2 (v1.i 63)) else (f_X12_can N (RS.setA (RS.setA p6.2 68 t p6.1) 70 t (p6.2.i 20)) 0).bind fun p12 => (if p12.1 = 0 then some p12.2 else f_X12_forBehind_89 N p12.2 (v1.i 63)))) else f_X12_forBehind_59 N (RS.setA (RS.setA p6.2 68 t p6.1) 70 t (p6.2.i 20)) (v1.i 63)) else none).bind fun p => f_X12_parse_10 N m p) P
  rw [← hM, p_em 13 0 (by omega) (by omega)]
  show ok ((if ib (v1.i 63) 1000 then (f_X12_emit N ((EM M 13 0).setA 67 t (M.i 20)) 15 0).bind fun p6 => (if (p6.2.i 15) = 0 then (if (p6.2.i 10) = 41 then f_X12_forBehind_59 N (RS.setA (RS.setA p6.2 68 t p6.1) 70 t (p6.2.i 20)) (v1.i 63) else (if (p6.2.i 10) = 2 then (f_X12_can N (RS.setA (RS.setA p6.2 68 t p6.1) 70 t (p6.2.i 20)) 1).bind fun p40 => (if p40.1 = 0 then some p40.2 else f_X12_forBehind_89 N p40.2 (v1.i 63)) else (f_X12_can N (RS.setA (RS.setA p6.2 68 t p6.1) 70 t (p6.2.i 20)) 0).bind fun p12 => (if p12.1 = 0 then some p12.2 else f_X12_forBehind_89 N p12.2 (v1.i 63)))) else f_X12_forBehind_59 N (RS.setA (RS.setA p6.2 68 t p6.1) 70 t (p6.2.i 20)) (v1.i 63)) else none : Option RS).bind fun p => f_X12_parse_10 N m p) P
  rw [if_pos (tp_ib a2 (by omega)), ← hF1, p_em 15 0 (by omega) (by omega)]
  show ok ((if ((EM F1 15 0).i 15) = 0 then (if ((EM F1 15 0).i 10) = 41 then f_X12_forBehind_59 N (RS.setA (RS.setA (EM F1 15 0) 68 t (F1.i 20)) 70 t ((EM F1 15 0).i 20)) (v1.i 63) else (if ((EM F1 15 0).i 10) = 2 then (f_X12_can N (RS.setA (RS.setA (EM F1 15 0) 68 t (F1.i 20)) 70 t ((EM F1 15 0).i 20)) 1).bind fun p40 => (if p40.1 = 0 then some p40.2 else f_X12_forBehind_89 N p40.2 (v1.i 63)) else (f_X12_can N (RS.setA (RS.setA (EM F1 15 0) 68 t (F1.i 20)) 70 t ((EM F1 15 0).i 20)) 0).bind fun p12 => (if p12.1 = 0 then some p12.2 else f_X12_forBehind_89 N p12.2 (v1.i 63)))) else f_X12_forBehind_59 N (RS.setA (RS.setA (EM F1 15 0) 68 t (F1.i 20)) 70 t ((EM F1 15 0).i 20)) (v1.i 63) : Option RS).bind fun p => f_X12_parse_10 N m p) P
  rw [← hF2, ← hU]
  have lU : LXI U := by rw [hU]; exact ((show LXI F2 by rw [hF2]; exact LXI.em (show LXI F1 by rw [hF1]; exact (LXI.em (o := 13) (x := 0) x1.2.2.2.1).sA 67 t _)).sA 68 t _).sA 70 t _
  have k01 : KP t v1 F1 := by rw [hF1]; exact (((KP.rf t v1).lx x1).em cv.1 (by omega)).loc t _ (by omega) (by omega) (Nat.le_refl _)
  have k02 : KP t v1 F2 := by rw [hF2]; exact k01.em cv.1 (by omega)
  have kU : KP t v1 U := by rw [hU]; exact (k02.loc t _ (by omega) (by omega) (Nat.le_refl _)).loc t _ (by omega) (by omega) (Nat.le_refl _)
  have i1F : ∀ j : Nat, j ≠ 20 → F1.i j = M.i j := fun j hj => by rw [hF1]; exact EM.i hj
  have i2F : ∀ j : Nat, j ≠ 20 → F2.i j = M.i j := fun j hj => by rw [hF2, EM.i hj]; exact i1F j hj
  have iU : ∀ j : Nat, j ≠ 20 → U.i j = M.i j := fun j hj => by rw [hU]; exact i2F j hj
  have cU : cdI U = cdI v1 + 2 := by have : cdI U = cdI F2 := by { rw [hU]; rfl }; omega
  have aU : ∀ k : Nat, k ≠ 21 → k ≠ 22 → k ≠ 23 → k ≠ 67 → k ≠ 68 → k ≠ 70 → U.a k = v1.a k := fun k h1 h2 h3 h4 h5 h6 => by rw [hU, setA_nk h6, setA_nk h5, hF2, EM.a h1 h2 h3, hF1, setA_nk h4, EM.a h1 h2 h3, x1.1]
  have U21q : U.a 21 (cdI v1).toNat = 13 := by rw [hU, setA_nk (by decide), setA_nk (by decide), hF2, EM.a21, if_neg (by omega), hF1, setA_nk (by decide), EM.a21, if_pos (by rw [cM])]
  have U21r : U.a 21 (cdI v1 + 1).toNat = 15 := by rw [hU, setA_nk (by decide), setA_nk (by decide), hF2, EM.a21, if_pos (by rw [c1])]
  have U67 : (U.a 67 t).toInt = cdI v1 := by rw [hU, setA_nk (by decide), setA_nk (by decide), hF2, EM.a (by decide) (by decide) (by decide), hF1, setA_at]; exact cM
  have U68 : (U.a 68 t).toInt = cdI v1 + 1 := by rw [hU, setA_nk (by decide), setA_at]; exact c1
  have U70 : (U.a 70 t).toInt = cdI U := by
    have : U.a 70 t = F2.i 20 := by rw [hU]; exact setA_at
    rw [this]
    show cdI F2 = cdI U
    omega
  have mU : MF t s M → fr v1 + 1 ≤ fr M → MF t s U := fun mM hfM => by
    rw [hU, hF2, hF1]
    have ra := a6
    unfold RATE at ra
    have m1 : MF t s ((EM M 13 0).setA 67 t (M.i 20)) := (mM.em hI (by omega)).loc _ (by omega) (by omega)
    have fr1 : fr ((EM M 13 0).setA 67 t (M.i 20)) = fr M := rfl
    rw [← hF1] at m1 fr1 ⊢
    exact ((m1.em hI (by omega)).loc _ (by omega) (by omega)).loc _ (by omega) (by omega)
  have e15 : F2.i 15 = M.i 15 := i2F 15 (by decide)
  have e10 : F2.i 10 = M.i 10 := i2F 10 (by decide)
  rw [e15, e10]
  clear hU hF2 hF1 hM eM
  have tpU : tpI U = t := by unfold tpI; rw [iU 63 (by decide), x1.i63]; exact a2
  have ksU : KP t s U := a3.tr kU (Nat.le_refl _)
  have r75 : U.i 75 = 0 ∨ U.i 75 = 1 := by rw [iU 75 (by decide), x1.2.2.1 75 (by omega) (by omega)]; exact a1.r
  have e59 : f_X12_forBehind_59 N U (v1.i 63) = some (U.setA 65 t 7) := by
    unfold f_X12_forBehind_59
    rw [if_pos (tp_ib a2 (by omega)), tp_nat a2]
  rw [e59]
  by_cases m15 : M.i 15 = 0
  case neg =>
    rw [if_neg m15]
    have u15 : ¬ U.i 15 = 0 := by rw [iU 15 (by decide)]; exact m15
    exact lp_f (u := U.setA 65 t 7) u15 (hF _ (FS'.loc (show FS' s U from ⟨u15, ksU.1.1, r75⟩) t 7 (by omega) (by omega))) (by omega)
  case pos =>
  rw [if_pos m15]
  rcases x2 with q | ⟨-, y1, y2, y3, y4, y5⟩
  · exact absurd m15 q
  have mM : MF t s M := mv.lx y2 x1 y3 y4 y5
  have mUU := mU mM y4
  have fU : fr U = fr M := by unfold fr; rw [iU 11 (by decide)]
  have tkU : tkI U = tkI M := by unfold tkI; rw [iU 17 (by decide)]
  have U38 : U.i 38 = J.i 38 := by rw [iU 38 (by decide), x1.i38]; exact v38
  have U52 : U.i 52 = J.i 52 := by rw [mUU.2.2.2.1.2.2.1]; exact sJ.2.2.1.symm
  have d1 : v1.i 52 = J.i 52 := by rw [a4.2.2.1]; exact sJ.2.2.1.symm
  have fin : ∀ (m' : Nat) (c : RS), (¬ 0 ≤ c.i 18 → TUP U c) → KP t U c → fr U ≤ fr c → MF t s c → c.i 38 = U.i 38 → c.a 65 t = 7 → (∀ k : Nat, 64 ≤ k → k ≤ 72 → k ≠ 65 → c.a k t = U.a k t) → 36000 + 1 ≤ (m' : Int) + 40 * fr c → (m : Int) + 40 * fr v1 ≤ m' + 40 * fr c → ok (f_X12_parse_10 N (m' + 1) c) P := by
    intro m' c tu kc fc mc c38 c65 loc hn' hm'
    refine FO7 (m := m') hN hs hI hp h9 hb hcb hF kJ sJ nJ tJ J75 fJ tsJ J0 kA cA A38 A52 fA te hz k1 a1 d1 f1 f1' le1 gv1 kU cU U38 U52 (by omega) U21q U21r tu kc fc mc (c38.trans U38) ?_ c65 ?_ ?_ ?_ ?_ ?_ ?_ hn' (fun m2 u hu hf hm => hC m2 u hu (by omega) (by omega))
    · rw [loc 64 (by omega) (by omega) (by decide), aU 64 (by decide) (by decide) (by decide) (by decide) (by decide) (by decide)]; exact v64
    · rw [loc 66 (by omega) (by omega) (by decide), aU 66 (by decide) (by decide) (by decide) (by decide) (by decide) (by decide)]; exact v66
    · rw [loc 67 (by omega) (by omega) (by decide)]; exact U67
    · rw [loc 68 (by omega) (by omega) (by decide)]; exact U68
    · rw [loc 70 (by omega) (by omega) (by decide)]; exact U70
    · rw [loc 71 (by omega) (by omega) (by decide), aU 71 (by decide) (by decide) (by decide) (by decide) (by decide) (by decide)]; exact v71
    · rw [loc 72 (by omega) (by omega) (by decide), aU 72 (by decide) (by decide) (by decide) (by decide) (by decide) (by decide)]; exact v72
  by_cases c41 : M.i 10 = 41
  · rw [if_pos c41]
    show ok (f_X12_parse_10 N m (U.setA 65 t 7)) P
    obtain ⟨m', rfl⟩ : ∃ m', m = m' + 1 := ⟨m - 1, by omega⟩
    have push' : ((m' + 1 : Nat) : Int) = (m' : Int) + 1 := by omega
    rw [push'] at hn
    exact fin m' (U.setA 65 t 7) (fun _ => TUP.nil (TBL.loc U t 7 (by omega) (by omega))) ((KP.rf t U).loc t 7 (by omega) (by omega) (Nat.le_refl _)) (Int.le_refl _) (mUU.loc 7 (by omega) (by omega)) rfl setA_at (fun k h1 h2 h3 => congrFun (setA_nk h3) t) (by show 36000 + 1 ≤ (m' : Int) + 40 * fr U; omega) (by show ((m' + 1 : Nat) : Int) + 40 * fr v1 ≤ m' + 40 * fr U; omega)
  rw [if_neg c41]
  have bad : ∀ S : RS, LX U S → ¬ S.i 15 = 0 → ok (f_X12_parse_10 N m S) P := fun S h1 h2 => lp_f h2 (hF S (FS'.of ksU.1.1 h1 h2 r75)) (by omega)
  by_cases c2' : M.i 10 = 2
  case neg =>
    rw [if_neg c2']
    obtain ⟨S, eS, h1, h2⟩ := can0 (N := N) lU ((iU 15 (by decide)).trans m15)
    rw [eS]
    exact bad S h1 h2
  rw [if_pos c2', can1 ((iU 15 (by decide)).trans m15) (by rw [iU 10 (by decide), c2']; decide)]
  show ok ((if (1 : Int32) = 0 then some U else f_X12_forBehind_89 N U (v1.i 63) : Option RS).bind fun p => f_X12_parse_10 N m p) P
  rw [if_neg (by decide)]
  unfold f_X12_forBehind_89
  obtain ⟨p, ep, hp2⟩ := GOT hN1 mUU.1 U.l (U.i 11)
  rw [ep, tp_nat a2]
  obtain ⟨G, hG⟩ : ∃ G, G = p.2 := ⟨_, rfl⟩
  show ok ((if ib (v1.i 63) 1000 then (f_X12_next N (RS.setA p.2 73 t p.1)).bind fun p18 => (if (p18.i 10) = 61 then (f_X12_can N p18 1).bind fun p21 => (if p21.1 = 0 then some p21.2 else f_X12_forBehind_143 N p21.2 (v1.i 63)) else (if (p18.i 10) = 307 then (f_X12_can N p18 1).bind fun p37 => (if p37.1 = 0 then some p37.2 else f_X12_forBehind_143 N p37.2 (v1.i 63)) else (f_X12_can N p18 0).bind fun p34 => (if p34.1 = 0 then some p34.2 else f_X12_forBehind_143 N p34.2 (v1.i 63)))) else none : Option RS).bind fun p => f_X12_parse_10 N m p) P
  rw [← hG] at hp2 ⊢
  rw [if_pos (tp_ib a2 (by omega))]
  clear hG ep
  have lG : LXI G := by rcases hp2 with ⟨-, q⟩ | ⟨q, -⟩; exact q.2.2.2.1; rw [q]; exact lU
  obtain ⟨K, eK, k1', k2', k3', k4'⟩ := p_nx hN1 (lG.sA 73 t p.1)
  rw [eK]
  have can : ∀ x : Int32, (G.i 15 = 0 → K.i 15 = 0 → ¬ x = 0 → ok ((f_X12_forBehind_143 N K (v1.i 63)).bind fun p => f_X12_parse_10 N m p) P) → ok (((f_X12_can N K x).bind fun p21 => (if p21.1 = 0 then some p21.2 else f_X12_forBehind_143 N p21.2 (v1.i 63)) : Option RS).bind fun p => f_X12_parse_10 N m p) P := fun x hgo => by
    obtain ⟨c, ec, q1, q2, q3⟩ := p_cn (N := N) k1'.2.2.2.1 x
    rw [ec]
    show ok ((if c.1 = 0 then some c.2 else f_X12_forBehind_143 N c.2 (v1.i 63) : Option RS).bind fun p => f_X12_parse_10 N m p) P
    rcases q3 with ⟨q3, q4⟩ | ⟨q3, q4, q5, q6⟩
    · rw [if_pos q3]
      refine lp_f q4 (hF c.2 ?_) (by omega)
      have kG : K1 s G := by
        rcases hp2 with ⟨-, r⟩ | ⟨r, -⟩
        · exact (ksU.lx r).1.1
        · rw [r]; exact ksU.1.1
      have k73 : K1 s (G.setA 73 t p.1) := ⟨kG.1, fun k hk => (if_neg (by omega)).trans (kG.2.1 k hk), kG.2.2⟩
      refine FS'.of (u := G.setA 73 t p.1) k73 (k1'.tr q1) q4 ?_
      show G.i 75 = 0 ∨ G.i 75 = 1
      rcases hp2 with ⟨-, r⟩ | ⟨r, -⟩
      · rw [r.2.2.1 75 (by omega) (by omega)]; exact r75
      · rw [r]; exact r75
    · rw [if_neg (by rw [q3]; decide), q4]
      exact hgo (k1'.2.2.2.2.1 q5) q5 q6
  have good : G.i 15 = 0 → K.i 15 = 0 → (K.i 10 = 61 ∨ K.i 10 = 307) → ok ((f_X12_forBehind_143 N K (v1.i 63)).bind fun p => f_X12_parse_10 N m p) P := by
    intro g15 k15 ktok
    rcases hp2 with ⟨q, -⟩ | ⟨q, sl⟩
    · exact absurd g15 q
    subst q
    have m73 : MF t s (G.setA 73 t p.1) := mUU.loc _ (by omega) (by omega)
    obtain ⟨-, kc⟩ := k4' g15
    obtain ⟨d1', d2', d3'⟩ := kc (show ¬ G.i 10 = 0 by rw [iU 10 (by decide), c2']; decide)
    have d2' : fr G + 1 ≤ fr K := d2'
    have tkG : tkI (G.setA 73 t p.1) = tkI G := rfl
    have tkk := tk_add d1' ⟨by have := mUU.1.tk; omega, by have := mUU.1.tk; have := mUU.1.1.f0; omega⟩
    have iK : INV K := m73.1.tbl k1'.tbl k1'.2.2.2.1 k15 k2' (k1'.2.2.1 52 (by omega) (by omega)) (by rw [k1'.2.2.1 75 (by omega) (by omega)]; exact m73.1.r) (by show fr G ≤ fr K; omega) ⟨by have := mUU.1.tk; omega, by have := mUU.1.tk; omega⟩
    have mK : MF t s K := m73.lx iK k1' k2' d2' tkk
    have kGK : KP t G K := ((KP.rf t G).loc (k := 73) t p.1 (by omega) (by omega) (Nat.le_refl _)).lx k1'
    unfold f_X12_forBehind_143 f_X12_forBehind_159
    obtain ⟨Y, eY, y1', y2', y3', y4', y5', y6', y7'⟩ := NX hN1 iK (by rcases ktok with h | h <;> (rw [h]; decide))
    have mY : MF t s Y := mK.lx y4' y1' y3' y5' y6'
    have kGY : KP t G Y := kGK.lx y1'
    have tGY : TBL G Y := ((TBL.loc G (k := 73) t p.1 (by omega) (by omega)).tr k1'.tbl).tr y1'.tbl
    have aY : Y.a = (G.setA 73 t p.1).a := y1'.1.trans k1'.1
    have Y73 : Y.a 73 t = p.1 := by rw [aY]; exact setA_at
    have locY : ∀ k : Nat, k ≠ 73 → Y.a k = G.a k := fun k hk => by rw [aY]; exact setA_nk hk
    have cY : cdI Y = cdI G := tGY.cd
    have fYf := y4'.1.f0
    have Y38 : Y.i 38 = G.i 38 := tGY.2.2 38 (by omega) (by omega) (by omega) (by omega)
    have raY := mY.2.2.2.2.2.1
    have cYd := y4'.cd
    by_cases c307 : K.i 10 = 307
    · rw [if_pos c307, eY, tp_nat a2]
      show ok ((if (1 : Int32) = 0 then (f_X12_then N Y 6 16).bind fun p28 => some p28 else (if ib (v1.i 63) 1000 then (f_X12_emit N Y 6 (Y.a 73 t)).bind fun p31 => some (RS.setA p31.2 65 t 7) else none) : Option RS).bind fun p => f_X12_parse_10 N m p) P
      rw [if_neg (by decide), if_pos (tp_ib a2 (by omega)), Y73, p_em 6 p.1 cYd.1 cYd.2.2]
      show ok (f_X12_parse_10 N m ((EM Y 6 p.1).setA 65 t 7)) P
      obtain ⟨c, hc⟩ : ∃ c, c = (EM Y 6 p.1).setA 65 t 7 := ⟨_, rfl⟩
      have mc : MF t s c := by
        rw [hc]
        refine (mY.em hI ?_).loc _ (by omega) (by omega)
        unfold RATE at a6; omega
      have kc' : KP t G c := by rw [hc]; exact (kGY.em mUU.1.cd.1 cYd.2.2).loc t _ (by omega) (by omega) (Nat.le_refl _)
      have cc : cdI c = cdI G + 1 := by rw [hc]; exact (EM.cd (u := Y) (o := 6) (x := p.1) cYd.1 cYd.2.2).trans (by rw [cY])
      have c21 : c.a 21 (cdI G).toNat = 6 := by rw [hc, setA_nk (by decide), EM.a21, if_pos (by rw [cY])]
      have c22 : c.a 22 (cdI G).toNat = p.1 := by rw [hc, setA_nk (by decide), EM.a22, if_pos (by rw [cY])]
      have c65 : c.a 65 t = 7 := by rw [hc]; exact setA_at
      have fc : fr c = fr Y := by rw [hc]; rfl
      have c38 : c.i 38 = G.i 38 := by rw [hc]; exact Y38
      have lc : ∀ k : Nat, 64 ≤ k → k ≤ 72 → k ≠ 65 → c.a k t = G.a k t := fun k h1 h2 h3 => by rw [hc, setA_nk h3, EM.a (by omega) (by omega) (by omega), locY k (by omega)]
      rw [← hc]
      clear hc
      obtain ⟨m', rfl⟩ : ∃ m', m = m' + 1 := ⟨m - 1, by omega⟩
      have push' : ((m' + 1 : Nat) : Int) = (m' : Int) + 1 := by omega
      rw [push'] at hn
      exact fin m' c (fun _ => TUP.inc mUU.1 cc c21 c22 sl) kc' (by omega) mc c38 c65 lc (by omega) (by rw [push']; omega)
    · rw [if_neg c307, eY]
      show ok ((if (0 : Int32) = 0 then (f_X12_then N Y 6 16).bind fun p28 => some p28 else (if ib (v1.i 63) 1000 then (f_X12_emit N Y 6 (Y.a 73 ((v1.i 63 : Int32).toNatClampNeg))).bind fun p31 => some (RS.setA p31.2 65 ((v1.i 63 : Int32).toNatClampNeg) 7) else none) : Option RS).bind fun p => f_X12_parse_10 N m p) P
      rw [if_pos rfl, p_th 6 16 mY.2.1 (by omega)]
      show ok (f_X12_parse_10 N m (TH Y t 6 16)) P
      have oY : op Y = op s + 1 := mY.2.2.2.2.2.2.2.2.1
      refine CALL (hx (by omega)) y4' mY.2.1 (by omega) (by omega) (by omega) (by omega) (fun u hu => hF u (FS'.kp mY.2.2.1 hu)) (fun m2 v hv hm2 => ?_)
      have mV := mY.pc mY.go hv
      obtain ⟨w1, w2, w3, w4, w5, w6, w7, w8, w9, w10, w11, w12⟩ := hv
      have fw := w1.1.f0
      have cw := w1.cd
      obtain ⟨m3, rfl⟩ : ∃ m3, m2 = m3 + 1 := ⟨m2 - 1, by omega⟩
      have push3 : ((m3 + 1 : Nat) : Int) = (m3 : Int) + 1 := by omega
      rw [push3] at hm2
      have w64 : v.a 64 t = 12 := by rw [w12 64 (by omega) (by omega) (by omega), locY 64 (by decide), aU 64 (by decide) (by decide) (by decide) (by decide) (by decide) (by decide)]; exact v64
      refine lp_12 w2 (by omega) w1.2.2.1 w64 ?_
      unfold f_X12_fors
      rw [if_pos (tp_ib w2 (by omega)), tp_nat w2, if_neg (by rw [w11]; decide), if_neg (by rw [w11]; decide), if_neg (by rw [w11]; decide), if_neg (by rw [w11]; decide), if_neg (by rw [w11]; decide), if_neg (by rw [w11]; decide), if_pos w11]
      have w73 : v.a 73 t = p.1 := (w12 73 (by omega) (by omega) (by omega)).trans Y73
      rw [w73, p_em 5 p.1 cw.1 cw.2.2]
      show ok (f_X12_parse_10 N m3 ((EM v 5 p.1).setA 65 t 7)) P
      obtain ⟨c, hc⟩ : ∃ c, c = (EM v 5 p.1).setA 65 t 7 := ⟨_, rfl⟩
      have mc : MF t s c := by
        rw [hc]
        refine (mV.em hI ?_).loc _ (by omega) (by omega)
        unfold RATE at a6 w6; omega
      have kc' : KP t v c := by rw [hc]; exact ((KP.rf t v).em cw.1 cw.2.2).loc t _ (by omega) (by omega) (Nat.le_refl _)
      have cc : cdI c = cdI v + 1 := by rw [hc]; exact EM.cd (u := v) (o := 5) (x := p.1) cw.1 cw.2.2
      have c21 : c.a 21 (cdI v).toNat = 5 := by rw [hc, setA_nk (by decide), EM.a21, if_pos rfl]
      have c22 : c.a 22 (cdI v).toNat = p.1 := by rw [hc, setA_nk (by decide), EM.a22, if_pos rfl]
      have c65 : c.a 65 t = 7 := by rw [hc]; exact setA_at
      have fc : fr c = fr v := by rw [hc]; rfl
      have c38 : c.i 38 = v.i 38 := by rw [hc]; rfl
      have c18 : c.i 18 = v.i 18 := by rw [hc]; rfl
      have gc : goI c = goI v := by rw [hc]; rfl
      have lc : ∀ k : Nat, 64 ≤ k → k ≤ 72 → k ≠ 65 → c.a k t = G.a k t := fun k h1 h2 h3 => by rw [hc, setA_nk h3, EM.a (by omega) (by omega) (by omega), w12 k (by omega) (by omega) h3, locY k (by omega)]
      rw [← hc]
      clear hc
      obtain ⟨m', rfl⟩ : ∃ m', m3 = m' + 1 := ⟨m3 - 1, by omega⟩
      have push' : ((m' + 1 : Nat) : Int) = (m' : Int) + 1 := by omega
      rw [push'] at hm2
      refine fin m' c (fun q => ?_) ((kGY.tr w3 (Nat.le_refl _)).tr kc' (Nat.le_refl _)) (by omega) mc ((c38.trans w5).trans Y38) c65 lc (by omega) (by omega)
      exact TUP.sto mUU.1 kGY cY Y38 (by rw [mY.2.2.2.1.2.2.1]; exact mUU.2.2.2.1.2.2.1.symm) (by omega) (w9 (by rw [← c18]; exact q)) w3 w1 (by rw [mV.2.2.2.1.2.2.1]; exact mUU.2.2.2.1.2.2.1.symm) w7 kc' (by omega) cc c21 c22 sl
  show ok ((if (K.i 10) = 61 then (f_X12_can N K 1).bind fun p21 => (if p21.1 = 0 then some p21.2 else f_X12_forBehind_143 N p21.2 (v1.i 63)) else (if (K.i 10) = 307 then (f_X12_can N K 1).bind fun p37 => (if p37.1 = 0 then some p37.2 else f_X12_forBehind_143 N p37.2 (v1.i 63)) else (f_X12_can N K 0).bind fun p34 => (if p34.1 = 0 then some p34.2 else f_X12_forBehind_143 N p34.2 (v1.i 63))) : Option RS).bind fun p => f_X12_parse_10 N m p) P
  by_cases c61 : K.i 10 = 61
  · rw [if_pos c61]; exact can 1 (fun h1 h2 _ => good h1 h2 (Or.inl c61))
  rw [if_neg c61]
  by_cases c307 : K.i 10 = 307
  · rw [if_pos c307]; exact can 1 (fun h1 h2 _ => good h1 h2 (Or.inr c307))
  rw [if_neg c307]
  exact can 0 (fun _ _ h => absurd rfl h)
end
section
/-! reading: for: the condition -/
theorem TBL.i11 (u : RS) (v : Int32) : TBL u (u.setI 11 v) := ⟨fun _ _ => rfl, rfl, fun _ _ _ _ _ => if_neg (by omega)⟩
theorem FO3 {N b : Nat} (hN : 4000 ≤ N) (hc' : 1 ≤ b → RUNE N 20 1 20 15 (b - 1)) (hx : 1 ≤ b → RUNE N 16 4 11 24 (b - 1)) (hs : 1 ≤ b → RUNS N (b - 1)) {m : Nat} {s I : RS} {t : Nat} {P : RS → Prop} (hI : INV s) (hp : PRS s) (h9 : t < 998) (hb : 2 * (t : Int) ≤ fr s + 12 * op s + 2) (hcb : 900 - fr s ≤ b) (hF : ∀ u, FS' s u → P u) (mI : MF t s I) (tsI : ¬ 0 ≤ I.i 18 → TS s (I.setI 75 1)) (I64 : I.a 64 t = 12) (I65 : I.a 65 t = 3) (I71 : I.a 71 t = s.i 38) (hn : 36000 ≤ (m : Int) + 40 * fr I) (n1 : 1 ≤ m) (hC : ∀ (m' : Nat) (u : RS), PS t s u → fr I ≤ fr u → (m : Int) + 40 * fr I ≤ m' + 40 * fr u → ok (f_X12_parse_10 N m' u) P) : ok (f_X12_parse_10 N (m + 1) I) P := by
  have hN1 : 1000 ≤ N := by omega
  obtain ⟨a1, a2, a3, a4, a5, a6, a7, a8, a9, a10⟩ := id mI
  have fIf := a1.1.f0
  have cI := a1.cd
  have cs := hI.cd
  have hop := hI.op
  have hf := hI.1.f0
  refine lp_12 a2 (by omega) a1.2.2.1 I64 ?_
  unfold f_X12_fors
  rw [if_pos (tp_ib a2 (by omega)), tp_nat a2, if_neg (by rw [I65]; decide), if_neg (by rw [I65]; decide), if_neg (by rw [I65]; decide), if_pos I65]
  obtain ⟨M0, eM, x1, x2⟩ := NDO hN1 a1 59 (by decide)
  rw [eM]
  obtain ⟨M, hM⟩ : ∃ M, M = M0.2 := ⟨_, rfl⟩
  show ok (((if (M0.2.i 10) = 432 then f_X12_fors_175 N (RS.setA (RS.setA M0.2 66 t (M0.2.i 20)) 69 t (M0.2.i 17)) (I.i 63) else f_X12_fors_175 N (RS.setA (RS.setA M0.2 66 t (M0.2.i 20)) 69 t 0) (I.i 63)) : Option RS).bind fun p => f_X12_parse_10 N m p) P
  rw [← hM] at x1 x2 ⊢
  clear hM eM
  have e69 : ∃ y : Int32, ((if (M.i 10) = 432 then f_X12_fors_175 N (RS.setA (RS.setA M 66 t (M.i 20)) 69 t (M.i 17)) (I.i 63) else f_X12_fors_175 N (RS.setA (RS.setA M 66 t (M.i 20)) 69 t 0) (I.i 63)) : Option RS) = f_X12_fors_175 N (RS.setA (RS.setA M 66 t (M.i 20)) 69 t y) (I.i 63) ∧ (y = 0 ∨ M.i 10 = 432 ∧ y = M.i 17) := by
    by_cases c : M.i 10 = 432
    · rw [if_pos c]; exact ⟨_, rfl, Or.inr ⟨c, rfl⟩⟩
    · rw [if_neg c]; exact ⟨_, rfl, Or.inl rfl⟩
  obtain ⟨y, ey, hy⟩ := e69
  rw [ey]
  clear ey
  have e72 : ∃ z : Int32, f_X12_fors_175 N (RS.setA (RS.setA M 66 t (M.i 20)) 69 t y) (I.i 63) = f_X12_fors_195 N (((M.setA 66 t (M.i 20)).setA 69 t y).setA 72 t z) (I.i 63) ∧ (M.i 10 = 59 ∧ z = 1 ∨ ¬ M.i 10 = 59 ∧ z = 0) := by
    unfold f_X12_fors_175
    rw [if_pos (tp_ib a2 (by omega)), if_pos (tp_ib a2 (by omega)), tp_nat a2]
    by_cases c : M.i 10 = 59
    · rw [if_pos (show ((M.setA 66 t (M.i 20)).setA 69 t y).i 10 = 59 from c)]; exact ⟨1, rfl, Or.inl ⟨c, rfl⟩⟩
    · rw [if_neg (show ¬ ((M.setA 66 t (M.i 20)).setA 69 t y).i 10 = 59 from c)]; exact ⟨0, rfl, Or.inr ⟨c, rfl⟩⟩
  obtain ⟨z0, ez0, hz0⟩ := e72
  rw [ez0]
  clear ez0
  obtain ⟨A, hA⟩ : ∃ A, A = ((M.setA 66 t (M.i 20)).setA 69 t y).setA 72 t z0 := ⟨_, rfl⟩
  have iA : A.i = M.i := by rw [hA]; rfl
  have aA : ∀ k : Nat, k ≠ 66 → k ≠ 69 → k ≠ 72 → A.a k = M.a k := fun k h1 h2 h3 => by rw [hA, setA_nk h3, setA_nk h2, setA_nk h1]
  have aN : ∀ (k j : Nat), j ≠ t → A.a k j = M.a k j := fun k j hj => by rw [hA, setA_ne hj, setA_ne hj, setA_ne hj]
  have A66 : A.a 66 t = M.i 20 := by rw [hA, setA_nk (by decide), setA_nk (by decide)]; exact setA_at
  have A69 : A.a 69 t = y := by rw [hA, setA_nk (by decide)]; exact setA_at
  have A72 : A.a 72 t = z0 := by rw [hA]; exact setA_at
  have tMA : TBL M A := by rw [hA]; exact ((TBL.loc M t _ (by omega) (by omega)).tr (TBL.loc _ t _ (by omega) (by omega))).tr (TBL.loc _ t _ (by omega) (by omega))
  have mMA : MF t s M → MF t s A := fun h => by rw [hA]; exact ((h.loc _ (by omega) (by omega)).loc _ (by omega) (by omega)).loc _ (by omega) (by omega)
  have fMA : FS' s M → FS' s A := fun h => by rw [hA]; exact ((h.loc t _ (by omega) (by omega)).loc t _ (by omega) (by omega)).loc t _ (by omega) (by omega)
  rw [← hA]
  clear hA
  have tpA : tpI A = t := by unfold tpI; rw [iA, x1.i63]; exact a2
  have cM : cdI M = cdI I := x1.tbl.cd
  have cA : cdI A = cdI I := tMA.cd.trans cM
  have tIA : TBL I A := x1.tbl.tr tMA
  unfold f_X12_fors_195
  rw [tp_nat a2]
  by_cases m15 : M.i 15 = 0
  case neg =>
    have fA := fMA (FS'.of a3.1.1 x1 m15 a1.r)
    by_cases c : A.i 10 = 59
    · rw [if_pos c, p_em 2 1 (by omega) (by omega)]
      show ok ((if ib (I.i 63) 1000 then some ((EM A 2 1).setA 65 t 5) else none : Option RS).bind fun p => f_X12_parse_10 N m p) P
      rw [if_pos (tp_ib a2 (by omega))]
      have q := (fA.em 2 1).loc (k := 65) t 5 (by omega) (by omega)
      exact lp_f (u := (EM A 2 1).setA 65 t 5) q.1 (hF _ q) n1
    · rw [if_neg c, p_th 4 20 tpA (by omega)]
      exact lp_f (u := TH A t 4 20) fA.1 (hF _ fA.th) n1
  rcases x2 with q | ⟨-, y1, y2, y3, y4, y5⟩
  · exact absurd m15 q
  have mM : MF t s M := mI.lx y2 x1 y3 y4 y5
  have mA := mMA mM
  have fAM : fr A = fr M := by unfold fr; rw [iA]
  obtain ⟨J, hJ⟩ : ∃ J, J = ((I.setI 75 1).setI 19 (s.i 19)).setI 11 (s.i 11) := ⟨_, rfl⟩
  have aJ : J.a = I.a := by rw [hJ]; rfl
  have tIJ : TBL I J := by rw [hJ]; exact ((TBL.i75 I 1).tr (TBL.i19 _ _)).tr (TBL.i11 _ _)
  have t7J : TBL (I.setI 75 1) J := by rw [hJ]; exact (TBL.i19 _ _).tr (TBL.i11 _ _)
  have kJ : KP t s J := by rw [hJ]; exact ((a3.i75 1).i19 _).i11 _
  have J75 : J.i 75 = 1 := by rw [hJ]; rfl
  have J19 : J.i 19 = s.i 19 := by rw [hJ]; rfl
  have J52 : J.i 52 = s.i 52 := by rw [hJ]; exact a4.2.2.1
  have J18 : J.i 18 = I.i 18 := by rw [hJ]; rfl
  have fJ : fr J = fr s := by rw [hJ]; rfl
  clear hJ
  have sJ : SAME s J := ⟨J19, (tIJ.2.2 43 (by omega) (by omega) (by omega) (by omega)).trans a4.2.1, J52, (tIJ.2.2 56 (by omega) (by omega) (by omega) (by omega)).trans a4.2.2.2⟩
  have nJ : SNW s J := a5.tbl tIJ
  have tJ : TAB J := a1.2.2.2.1.tbl tIJ (fun γ hγ => by
    have e : deI J = deI I := by unfold deI; rw [J52, a4.2.2.1]
    rw [e]; exact (a1.2.2.2.1.2.2.2.2.2.2.1 γ hγ).2) (Or.inr J75)
  have tsJ : ¬ 0 ≤ J.i 18 → TS s J := fun q => (tsI (by rw [← J18]; exact q)).tbs (TBL.rf s) t7J.tbs rfl (Int.le_refl _) (by omega) (fun _ => J75)
  have cJ : cdI J = cdI I := tIJ.cd
  have tJA : TBL J A := tIJ.sy.tr tIA
  have A18 : A.i 18 = J.i 18 := by rw [iA, J18]; exact x1.2.2.1 18 (by omega) (by omega)
  have kA : KP t J A := (KP.rf t J).tbl tJA (fun q => by rw [A18]; exact q) (fun k h1 h2 j hj => by rw [aN k j (by omega), x1.1, aJ])
  have A38 : A.i 38 = J.i 38 := tJA.2.2 38 (by omega) (by omega) (by omega) (by omega)
  have A52 : A.i 52 = J.i 52 := by rw [mA.2.2.2.1.2.2.1, J52]
  have A64 : A.a 64 t = 12 := by rw [aA 64 (by decide) (by decide) (by decide), x1.1]; exact I64
  have A71 : A.a 71 t = s.i 38 := by rw [aA 71 (by decide) (by decide) (by decide), x1.1]; exact I71
  have A66' : (A.a 66 t).toInt = cdI A := by rw [A66]; show cdI M = cdI A; omega
  have cAd := mA.1.cd
  by_cases c : A.i 10 = 59
  · rw [if_pos c, p_em 2 1 (by omega) (by omega)]
    show ok ((if ib (I.i 63) 1000 then some ((EM A 2 1).setA 65 t 5) else none : Option RS).bind fun p => f_X12_parse_10 N m p) P
    rw [if_pos (tp_ib a2 (by omega))]
    show ok (f_X12_parse_10 N m ((EM A 2 1).setA 65 t 5)) P
    obtain ⟨v1, hv1⟩ : ∃ v1, v1 = (EM A 2 1).setA 65 t 5 := ⟨_, rfl⟩
    have mv : MF t s v1 := by
      rw [hv1]
      refine (mA.em hI ?_).loc _ (by omega) (by omega)
      unfold RATE at a6; omega
    have k1 : KP t A v1 := by rw [hv1]; exact ((KP.rf t A).em cAd.1 cAd.2.2).loc t _ (by omega) (by omega) (Nat.le_refl _)
    have cv1 : cdI v1 = cdI A + 1 := by rw [hv1]; exact EM.cd (u := A) (o := 2) (x := 1) cAd.1 cAd.2.2
    have e21 : v1.a 21 (cdI A).toNat = 2 := by rw [hv1, setA_nk (by decide), EM.a21, if_pos rfl]
    have e22 : v1.a 22 (cdI A).toNat = 1 := by rw [hv1, setA_nk (by decide), EM.a22, if_pos rfl]
    have e65 : v1.a 65 t = 5 := by rw [hv1]; exact setA_at
    have fv1 : fr v1 = fr A := by rw [hv1]; rfl
    have v38 : v1.i 38 = J.i 38 := by rw [hv1]; exact A38
    have lc : ∀ k : Nat, 64 ≤ k → k ≤ 72 → k ≠ 65 → v1.a k t = A.a k t := fun k h1 h2 h3 => by rw [hv1, setA_nk h3, EM.a (by omega) (by omega) (by omega)]
    rw [← hv1]
    clear hv1
    have z1 : z0 = 1 := by
      rcases hz0 with q | q
      · exact q.2
      · exact absurd (by rw [iA] at c; exact c) q.1
    obtain ⟨m', rfl⟩ : ∃ m', m = m' + 1 := ⟨m - 1, by omega⟩
    have push' : ((m' + 1 : Nat) : Int) = (m' : Int) + 1 := by omega
    rw [push'] at hn
    refine FO5 (m := m') (z := 1) hN hx hs hI hp h9 hb hcb hF kJ sJ nJ tJ J75 (by omega) tsJ (by omega) kA (by omega) A38 A52 (by omega) (fun _ q => absurd q (by decide)) (Or.inr ⟨rfl, cv1, e21, e22⟩) k1 (by omega) (by omega) (by omega) mv v38 ?_ e65 ?_ ?_ ?_ (by omega) (fun m2 u hu hf hm => hC m2 u hu (by omega) (by omega))
    · rw [lc 64 (by omega) (by omega) (by decide)]; exact A64
    · rw [lc 66 (by omega) (by omega) (by decide)]; exact A66'
    · rw [lc 71 (by omega) (by omega) (by decide)]; exact A71
    · rw [lc 72 (by omega) (by omega) (by decide), A72]; exact z1
  rw [if_neg c, p_th 4 20 tpA (by omega)]
  show ok (f_X12_parse_10 N m (TH A t 4 20)) P
  have oA : op A = op s + 1 := mA.2.2.2.2.2.2.2.2.1
  refine CALL (hc' (by omega)) mA.1 tpA (by omega) (by omega) (by omega) (by omega) (fun u hu => hF u (FS'.kp mA.2.2.1 hu)) (fun m2 v hv hm2 => ?_)
  have mV := mA.pc mA.go hv
  obtain ⟨w1, w2, w3, w4, w5, w6, w7, w8, w9, w10, w11, w12⟩ := hv
  have fw := w1.1.f0
  obtain ⟨m3, rfl⟩ : ∃ m3, m2 = m3 + 1 := ⟨m2 - 1, by omega⟩
  have push3 : ((m3 + 1 : Nat) : Int) = (m3 : Int) + 1 := by omega
  rw [push3] at hm2
  refine lp_12 w2 (by omega) w1.2.2.1 ((w12 64 (by omega) (by omega) (by omega)).trans A64) ?_
  unfold f_X12_fors f_X12_fors_255
  rw [if_pos (tp_ib w2 (by omega)), tp_nat w2, if_neg (by rw [w11]; decide), if_neg (by rw [w11]; decide), if_neg (by rw [w11]; decide), if_neg (by rw [w11]; decide), if_pos w11]
  have v69 : v.a 69 t = y := (w12 69 (by omega) (by omega) (by omega)).trans A69
  obtain ⟨z, ez, hz'⟩ := p_jt (N := N) (v := v) (v.a 69 t)
  rw [ez]
  have e71 : ((if z = 0 then (if ib (v.i 63) 1000 then some ((v.setA 72 t 0).setA 65 t 5) else none) else (if ib (v.i 63) 1000 then some ((v.setA 72 t 1).setA 65 t 5) else none)) : Option RS) = some ((v.setA 72 t z).setA 65 t 5) := by
    rw [if_pos (tp_ib w2 (by omega)), if_pos (tp_ib w2 (by omega))]
    rcases hz' with c | c
    · rw [if_pos c, c]
    · rw [if_neg (by rw [c.1]; decide), c.1]
  show ok (((if z = 0 then (if ib (v.i 63) 1000 then some ((v.setA 72 t 0).setA 65 t 5) else none) else (if ib (v.i 63) 1000 then some ((v.setA 72 t 1).setA 65 t 5) else none)) : Option RS).bind fun p => f_X12_parse_10 N m3 p) P
  rw [e71]
  show ok (f_X12_parse_10 N m3 ((v.setA 72 t z).setA 65 t 5)) P
  have hzz : z = 0 ∨ z = 1 ∧ cdI v = cdI A + 1 ∧ v.a 21 (cdI A).toNat = 2 ∧ v.a 22 (cdI A).toNat = 1 := by
    rcases hz' with c | ⟨c1, c2, c3⟩
    · exact Or.inl c
    · right
      rw [v69] at c2 c3
      rcases hy with h | ⟨h1, h2⟩
      · rw [h] at c2; exact absurd (by decide) c2
      · have e10 : A.i 10 = 432 := by rw [iA]; exact h1
        have e17 : v.i 17 = A.i 17 + 1 := by rw [c3, h2, iA]
        have tk : tkI v = tkI A + 1 := tk_add e17 ⟨mA.1.tk.1, by have := mA.1.tk; omega⟩
        exact ⟨c1, w10.2 e10 tk⟩
  obtain ⟨v1, hv1⟩ : ∃ v1, v1 = (v.setA 72 t z).setA 65 t 5 := ⟨_, rfl⟩
  have mv : MF t s v1 := by rw [hv1]; exact (mV.loc _ (by omega) (by omega)).loc _ (by omega) (by omega)
  have tv1 : TBL v v1 := by rw [hv1]; exact (TBL.loc v t _ (by omega) (by omega)).tr (TBL.loc _ t _ (by omega) (by omega))
  have k1 : KP t A v1 := by rw [hv1]; exact (w3.loc t _ (by omega) (by omega) (Nat.le_refl _)).loc t _ (by omega) (by omega) (Nat.le_refl _)
  have cv1 : cdI v1 = cdI v := tv1.cd
  have e65 : v1.a 65 t = 5 := by rw [hv1]; exact setA_at
  have e72 : v1.a 72 t = z := by rw [hv1, setA_nk (by decide)]; exact setA_at
  have fv1 : fr v1 = fr v := by rw [hv1]; rfl
  have v38 : v1.i 38 = v.i 38 := by rw [hv1]; rfl
  have v18 : v1.i 18 = v.i 18 := by rw [hv1]; rfl
  have lc : ∀ k : Nat, k ≠ 65 → k ≠ 72 → v1.a k = v.a k := fun k h1 h2 => by rw [hv1, setA_nk h1, setA_nk h2]
  rw [← hv1]
  clear hv1
  have le := w3.2.1.1
  obtain ⟨m', rfl⟩ : ∃ m', m3 = m' + 1 := ⟨m3 - 1, by omega⟩
  have push' : ((m' + 1 : Nat) : Int) = (m' : Int) + 1 := by omega
  rw [push'] at hm2
  refine FO5 (m := m') (z := z) hN hx hs hI hp h9 hb hcb hF kJ sJ nJ tJ J75 (by omega) tsJ (by omega) kA (by omega) A38 A52 (by omega) (fun q _ => (w9 (by rw [← v18]; exact q)).tbl (TBL.rf A) tv1 rfl rfl) ?_ k1 (by omega) (by omega) (by omega) mv ((v38.trans w5).trans A38) ?_ e65 ?_ ?_ e72 (by omega) (fun m4 u hu hf hm => hC m4 u hu (by omega) (by omega))
  · rcases hzz with q | ⟨q1, q2, q3, q4⟩
    · exact Or.inl q
    · exact Or.inr ⟨q1, by omega, by rw [lc 21 (by decide) (by decide)]; exact q3, by rw [lc 22 (by decide) (by decide)]; exact q4⟩
  · rw [lc 64 (by decide) (by decide), w12 64 (by omega) (by omega) (by omega)]; exact A64
  · rw [lc 66 (by decide) (by decide), w12 66 (by omega) (by omega) (by omega)]; exact A66'
  · rw [lc 71 (by decide) (by decide), w12 71 (by omega) (by omega) (by omega)]; exact A71
end
section
/-! reading: for: what its head lays before the condition -/
theorem INV.se {u : RS} {n : Int64} (h : INV u) (hsl : 2 * (slI u + 1) ≤ fr u + 4) : INV (SE u n 0) := by
  have nse := h.2.2.2.2.2.2.2.2.2.1
  have nsl := h.2.2.2.2.2.2.2.2.2.2.1
  have hf := h.1.f0
  have e1 := SE.eSE (u := u) (n := n) (c := 0) nse.1 (by omega)
  have e2 := SE.eSL (u := u) (n := n) (c := 0) (by omega) (by omega)
  obtain ⟨b1, b2, b3, b4, b5, b6, b7, b8, b9, b10, b11, b12⟩ := h.2.2.2.2
  refine ⟨h.1, RB.of rfl rfl rfl rfl rfl h.2.1, h.2.2.1, h.2.2.2.1.se0 nse.1 (by omega) (by omega) (by omega), b1, b2, b3, b4, b5, ⟨by rw [e1]; omega, by rw [e1, e2]; omega⟩, ?_, b8, b9, b10, b11, b12⟩
  rw [e2]
  exact hsl
theorem MF.se {t : Nat} {s u : RS} {n : Int64} (h : MF t s u) (hI : INV s) (hsl : 2 * (slI u + 1 - slI s) ≤ fr u - fr s) : MF t s (SE u n 0) := by
  obtain ⟨a1, a2, a3, a4, a5, a6, a7, a8, a9, a10⟩ := h
  have nse := a1.2.2.2.2.2.2.2.2.2.1
  have nsl := a1.2.2.2.2.2.2.2.2.2.2.1
  have mse := hI.2.2.2.2.2.2.2.2.2.1
  have msl := hI.2.2.2.2.2.2.2.2.2.2.1
  have hf := a1.1.f0
  have ksl := a3.2.2.2.2.2.1.2.1
  have e2 := SE.eSL (u := u) (n := n) (c := 0) (by omega) (by omega)
  refine ⟨a1.se (by omega), a2, a3.se mse.1 (by omega) (by omega) (by omega), a4, a5.se nse.1 (by omega) (by omega) (by omega) ksl, ?_, a7, a8, a9, a10⟩
  have g1 : cdI (SE u n 0) = cdI u := rfl
  have g2 : enI (SE u n 0) = enI u := rfl
  have g3 : trI (SE u n 0) = trI u := rfl
  have g4 : caI (SE u n 0) = caI u := rfl
  have g6 : peI (SE u n 0) = peI u := rfl
  have g7 : fr (SE u n 0) = fr u := rfl
  have g8 : tkI (SE u n 0) = tkI u := rfl
  unfold RATE at *
  rw [g1, g2, g3, g4, e2, g6, g7, g8]
  omega
/-- a name is told, a value laid under it -/
theorem TS.tel {t : Nat} {s w v q W : RS} (hI : INV s) (kw : KP t s w) (w38 : w.i 38 = s.i 38) (w52 : w.i 52 = s.i 52) (fw : fr s ≤ fr w) (cw : cdI w = cdI s + 1) (w21 : w.a 21 (cdI s).toNat = 1) (te : TE w v) (k2 : KP t w v) (i2 : INV v) (v52 : v.i 52 = s.i 52) (f2 : fr w + 1 ≤ fr v) (qi : ∀ j : Nat, j ≠ 38 → j ≠ 42 → q.i j = v.i j) (qa : ∀ k : Nat, k ≠ 40 → k ≠ 41 → q.a k = v.a k) (qsl : slI q = slI v + 1) (hW : TBL (EM q 5 (v.i 42)) W) (kW : KP t v W) (W75 : W.i 75 = 1) : TS s W := by
  have cs := hI.cd
  have cv := i2.cd
  have fv := i2.1.f0
  have lt := k2.2.1.1
  have nsl := i2.2.2.2.2.2.2.2.2.2.2.1
  have nse := i2.2.2.2.2.2.2.2.2.2.1
  have ksl := (kw.tr k2 (Nat.le_refl _)).2.2.2.2.2.1.2.1
  have cq : cdI q = cdI v := by unfold cdI; rw [qi 20 (by decide) (by decide)]
  have eem : cdI (EM q 5 (v.i 42)) = cdI v + 1 := by rw [← cq]; exact EM.cd (u := q) (by omega) (by omega)
  have cW : cdI W = cdI v + 1 := hW.cd.trans eem
  have gW : goI W ≤ goI v := by
    rw [hW.go]
    show goI q ≤ goI v
    unfold goI
    rw [qi 43 (by decide) (by decide)]
    exact Int.le_refl _
  have W21 : W.a 21 = (EM q 5 (v.i 42)).a 21 := hW.1 21 (by omega)
  have W22 : W.a 22 = (EM q 5 (v.i 42)).a 22 := hW.1 22 (by omega)
  have slW : slI W = slI q := hW.sl
  have caW : caI W = caI q := hW.ca
  refine TS.e1 (o9 := 5) (x := v.i 42) kw te k2 i2.tn kW gW cs.1 cw cW ?_ ?_ ?_ (by decide) w38 w52 v52 fw f2 fv.2 (fun f C g h o lv rs hC' hg hy _ hE g1 g2 g3 ek2 => ?_)
  · rw [W21, EM.a21, if_neg (by omega), qa 21 (by decide) (by decide), k2.2.1.2.1 (cdI s).toNat (by omega)]
    exact w21
  · rw [W21, EM.a21, if_pos (by rw [cq])]
  · rw [W22, EM.a22, if_pos (by rw [cq])]
  · have hF' : FL f g lv (((cdI v).toNat : Int) + 1) (((cdI v).toNat : Int) + 1) h o rs := by
      rw [ek2]; exact hE.2.1 W75
    have hsl : gv f 22 (cdI v).toNat = slI v := g2
    refine okJ_5 (c := (h + 1, o, lv, false, rs)) g1 ⟨by rw [hsl]; exact ⟨by omega, by omega⟩, ?_, by show 1 ≤ h + 1; omega, hF'⟩
    rw [hsl, hg]
    have es : ((slI v).toNat : Int) = slI v := Int.toNat_of_nonneg (by omega)
    have := hC' (slI v).toNat (by omega) (by omega)
    cases hq : C (slI v).toNat with
    | false => rfl
    | true =>
      obtain ⟨j, j1, j2, j3⟩ := this.mp hq
      rw [hW.g (by decide)] at j3
      have j3 : gv q 36 j = ((slI v).toNat : Int) := j3
      have e36 : gv q 36 j = gv v 36 j := by unfold gv; rw [qa 36 (by decide) (by decide)]
      have ecq : caI q = caI v := by unfold caI; rw [qi 33 (by decide) (by decide)]
      have := (i2.2.2.2.1.2.2.2.2.2.1 j (by omega)).2
      omega
/-- behind the sign: x = e -/
theorem FO2 {N b : Nat} (hN : 4000 ≤ N) (hc' : 1 ≤ b → RUNE N 20 1 20 15 (b - 1)) (hx : 1 ≤ b → RUNE N 16 4 11 24 (b - 1)) (hs : 1 ≤ b → RUNS N (b - 1)) {n : Nat} {s w : RS} {t : Nat} {P : RS → Prop} {x : Int32} (hI : INV s) (hp : PRS s) (h9 : t < 998) (hb : 2 * (t : Int) ≤ fr s + 12 * op s + 2) (hcb : 900 - fr s ≤ b) (hF : ∀ u, FS' s u → P u) (mW : MF t s w) (w38 : w.i 38 = s.i 38) (cw : cdI w = cdI s + 1) (w21 : w.a 21 (cdI s).toNat = 1) (fw : fr s + 3 ≤ fr w) (w64 : w.a 64 t = 12) (w66 : w.a 66 t = x) (hxs : SLT s x) (w71 : w.a 71 t = s.i 38) (hn : 36000 + 29 ≤ (n : Int) + 1 + 40 * fr s) (hC : ∀ (m : Nat) (u : RS), PS t s u → fr s + 1 ≤ fr u → (n : Int) + 1 + 40 * fr s + 11 ≤ m + 40 * fr u → ok (f_X12_parse_10 N m u) P) : ok (f_X12_parse_10 N n (TH w t 2 16)) P := by
  have fwf := mW.1.1.f0
  have ow : op w = op s + 1 := mW.2.2.2.2.2.2.2.2.1
  refine CALL (hx (by omega)) mW.1 mW.2.1 (by omega) (by omega) (by omega) (by omega) (fun u hu => hF u (FS'.kp mW.2.2.1 hu)) (fun m2 v hv hm2 => ?_)
  have mV := mW.pc mW.go hv
  obtain ⟨v1, v2, v3, v4, v5, v6, v7, v8, v9, v10, v11, v12⟩ := hv
  have fv := v1.1.f0
  have cv := v1.cd
  have cs := hI.cd
  obtain ⟨m3, rfl⟩ : ∃ m3, m2 = m3 + 1 := ⟨m2 - 1, by omega⟩
  have push2 : ((m3 + 1 : Nat) : Int) = (m3 : Int) + 1 := by omega
  rw [push2] at hm2
  refine lp_12 v2 (by omega) v1.2.2.1 ((v12 64 (by omega) (by omega) (by omega)).trans w64) ?_
  have e66 : v.a 66 t = x := (v12 66 (by omega) (by omega) (by omega)).trans w66
  unfold f_X12_fors
  rw [if_pos (tp_ib v2 (by omega)), tp_nat v2, if_neg (by rw [v11]; decide), if_neg (by rw [v11]; decide), if_pos v11, e66, p_em 5 x cv.1 cv.2.2]
  show ok (f_X12_parse_10 N m3 ((EM v 5 x).setA 65 t 3)) P
  obtain ⟨I, hII⟩ : ∃ I, I = (EM v 5 x).setA 65 t 3 := ⟨_, rfl⟩
  have ra := mV.2.2.2.2.2.1
  have mI : MF t s I := by
    rw [hII]
    refine (mV.em hI ?_).loc _ (by omega) (by omega)
    unfold RATE at v6; omega
  have kI : KP t v (I.setI 75 1) := by rw [hII]; exact ((((KP.rf t v).em cv.1 cv.2.2).loc t _ (by omega) (by omega) (Nat.le_refl _))).i75 1
  have cI : cdI (I.setI 75 1) = cdI v + 1 := by rw [hII]; exact EM.cd (u := v) (o := 5) (x := x) cv.1 cv.2.2
  have gI : goI (I.setI 75 1) = goI v := by rw [hII]; rfl
  have I21 : ∀ j : Nat, I.a 21 j = if j = (cdI v).toNat then 5 else v.a 21 j := fun j => by rw [hII, setA_nk (by decide)]; exact EM.a21 j
  have I22 : I.a 22 (cdI v).toNat = x := by rw [hII, setA_nk (by decide), EM.a22, if_pos rfl]
  have I65 : I.a 65 t = 3 := by rw [hII]; exact setA_at
  have lI : ∀ k : Nat, 64 ≤ k → k ≤ 73 → k ≠ 65 → I.a k t = v.a k t := fun k h1 h2 h3 => by rw [hII, setA_nk h3, EM.a (by omega) (by omega) (by omega)]
  have fI : fr I = fr v := by rw [hII]; rfl
  have I18 : I.i 18 = v.i 18 := by rw [hII]; rfl
  rw [← hII]
  clear hII
  obtain ⟨m', rfl⟩ : ∃ m', m3 = m' + 1 := ⟨m3 - 1, by omega⟩
  have push' : ((m' + 1 : Nat) : Int) = (m' : Int) + 1 := by omega
  rw [push'] at hm2
  have lt := v3.2.1.1
  obtain ⟨h1, h2⟩ := hxs.ok hI
  refine FO3 (m := m') hN hc' hx hs hI hp h9 hb hcb hF mI (fun z => ?_) ?_ I65 ?_ (by omega) (by omega) (fun m4 u hu hf hm => hC m4 u hu (by omega) (by omega))
  · refine TS.e1 (o9 := 5) (x := x) (W := I.setI 75 1) mW.2.2.1 (v9 (by rw [← I18]; exact z)) v3 v1.tn kI (by omega) cs.1 cw cI ?_ ?_ I22 (by decide) w38 mW.2.2.2.1.2.2.1 mV.2.2.2.1.2.2.1 (by omega) v7 fv.2 (fun f C g h o lv rs hC' hg hy _ hE g1 g2 g3 ek2 => ?_)
    · show I.a 21 (cdI s).toNat = 1
      rw [I21, if_neg (by omega), v3.2.1.2.1 (cdI s).toNat (by omega)]
      exact w21
    · show I.a 21 (cdI v).toNat = 5
      rw [I21, if_pos rfl]
    · have hF' : FL f g lv (((cdI v).toNat : Int) + 1) (((cdI v).toNat : Int) + 1) h o rs := by
        rw [ek2]; exact hE.2.1 rfl
      exact okJ_5 (c := (h + 1, o, lv, false, rs)) g1 ⟨by rw [g2]; exact h1, by rw [g2]; exact h2 g hE.1.2, by show 1 ≤ h + 1; omega, hF'⟩
  · rw [lI 64 (by omega) (by omega) (by decide), v12 64 (by omega) (by omega) (by omega)]; exact w64
  · rw [lI 71 (by omega) (by omega) (by decide), v12 71 (by omega) (by omega) (by omega)]; exact w71
/-- behind the sign: int x = e -/
theorem FO1 {N b : Nat} (hN : 4000 ≤ N) (hc' : 1 ≤ b → RUNE N 20 1 20 15 (b - 1)) (hx : 1 ≤ b → RUNE N 16 4 11 24 (b - 1)) (hs : 1 ≤ b → RUNS N (b - 1)) {n : Nat} {s w : RS} {t : Nat} {P : RS → Prop} (hI : INV s) (hp : PRS s) (h9 : t < 998) (hb : 2 * (t : Int) ≤ fr s + 12 * op s + 2) (hcb : 900 - fr s ≤ b) (hF : ∀ u, FS' s u → P u) (mW : MF t s w) (w38 : w.i 38 = s.i 38) (w42 : slI w = slI s) (cw : cdI w = cdI s + 1) (w21 : w.a 21 (cdI s).toNat = 1) (fw : fr s + 3 ≤ fr w) (w64 : w.a 64 t = 12) (w71 : w.a 71 t = s.i 38) (hn : 36000 + 29 ≤ (n : Int) + 1 + 40 * fr s) (hC : ∀ (m : Nat) (u : RS), PS t s u → fr s + 1 ≤ fr u → (n : Int) + 1 + 40 * fr s + 11 ≤ m + 40 * fr u → ok (f_X12_parse_10 N m u) P) : ok (f_X12_parse_10 N n (TH w t 1 16)) P := by
  have fwf := mW.1.1.f0
  have ow : op w = op s + 1 := mW.2.2.2.2.2.2.2.2.1
  refine CALL (hx (by omega)) mW.1 mW.2.1 (by omega) (by omega) (by omega) (by omega) (fun u hu => hF u (FS'.kp mW.2.2.1 hu)) (fun m2 v hv hm2 => ?_)
  have mV := mW.pc mW.go hv
  obtain ⟨v1, v2, v3, v4, v5, v6, v7, v8, v9, v10, v11, v12⟩ := hv
  have fv := v1.1.f0
  have cv := v1.cd
  have cs := hI.cd
  have nse := v1.2.2.2.2.2.2.2.2.2.1
  have nsl := v1.2.2.2.2.2.2.2.2.2.2.1
  obtain ⟨m3, rfl⟩ : ∃ m3, m2 = m3 + 1 := ⟨m2 - 1, by omega⟩
  have push2 : ((m3 + 1 : Nat) : Int) = (m3 : Int) + 1 := by omega
  rw [push2] at hm2
  refine lp_12 v2 (by omega) v1.2.2.1 ((v12 64 (by omega) (by omega) (by omega)).trans w64) ?_
  unfold f_X12_fors
  rw [if_pos (tp_ib v2 (by omega)), tp_nat v2, if_neg (by rw [v11]; decide), if_pos v11, p_se (N := N) (u := v) (v.b 74 t) (Or.inl rfl) nse.1 (by omega)]
  obtain ⟨q, hq⟩ : ∃ q, q = SE v (v.b 74 t) 0 := ⟨_, rfl⟩
  have mq : MF t s q := by
    rw [hq]
    refine mV.se hI ?_
    unfold RATE at v6; omega
  have qi : ∀ j : Nat, j ≠ 38 → j ≠ 42 → q.i j = v.i j := fun j h1 h2 => by rw [hq]; exact SE.eI h1 h2
  have qa : ∀ k : Nat, k ≠ 40 → k ≠ 41 → q.a k = v.a k := fun k h1 h2 => by rw [hq]; exact SE.eA h1 h2
  have qsl : slI q = slI v + 1 := by rw [hq]; exact SE.eSL (by omega) (by omega)
  have qk : KP t v q := by rw [hq]; exact (KP.rf t v).se nse.1 (by omega) (by omega) (by omega)
  show ok (((f_X12_emit N (SE v (v.b 74 t) 0) 5 (v.i 42)).bind fun p12 => some (RS.setA p12.2 65 t 3)).bind fun p => f_X12_parse_10 N m3 p) P
  rw [← hq]
  clear hq
  have cq : cdI q = cdI v := by unfold cdI; rw [qi 20 (by decide) (by decide)]
  have fq : fr q = fr v := by unfold fr; rw [qi 11 (by decide) (by decide)]
  rw [p_em 5 (v.i 42) (by omega) (by omega)]
  show ok (f_X12_parse_10 N m3 ((EM q 5 (v.i 42)).setA 65 t 3)) P
  obtain ⟨I, hII⟩ : ∃ I, I = (EM q 5 (v.i 42)).setA 65 t 3 := ⟨_, rfl⟩
  have ra := mV.2.2.2.2.2.1
  have mI : MF t s I := by
    rw [hII]
    refine (mq.em hI ?_).loc _ (by omega) (by omega)
    unfold RATE at v6; omega
  have kI : KP t v (I.setI 75 1) := by rw [hII]; exact (((qk.em cv.1 (by omega)).loc t _ (by omega) (by omega) (Nat.le_refl _))).i75 1
  have tI : TBL (EM q 5 (v.i 42)) (I.setI 75 1) := by rw [hII]; exact (TBL.loc _ t _ (by omega) (by omega)).tr (TBL.i75 _ _)
  have I65 : I.a 65 t = 3 := by rw [hII]; exact setA_at
  have lI : ∀ k : Nat, 64 ≤ k → k ≤ 73 → k ≠ 65 → I.a k t = q.a k t := fun k h1 h2 h3 => by rw [hII, setA_nk h3, EM.a (by omega) (by omega) (by omega)]
  have fI : fr I = fr q := by rw [hII]; rfl
  have I18 : I.i 18 = q.i 18 := by rw [hII]; rfl
  rw [← hII]
  clear hII
  obtain ⟨m', rfl⟩ : ∃ m', m3 = m' + 1 := ⟨m3 - 1, by omega⟩
  have push' : ((m' + 1 : Nat) : Int) = (m' : Int) + 1 := by omega
  rw [push'] at hm2
  refine FO3 (m := m') hN hc' hx hs hI hp h9 hb hcb hF mI (fun z => ?_) ?_ I65 ?_ (by omega) (by omega) (fun m4 u hu hf hm => hC m4 u hu (by omega) (by omega))
  · exact TS.tel hI mW.2.2.1 w38 mW.2.2.2.1.2.2.1 (by omega) cw w21 (v9 (by rw [← qi 18 (by decide) (by decide), ← I18]; exact z)) v3 v1 mV.2.2.2.1.2.2.1 v7 qi qa qsl tI kI rfl
  · rw [lI 64 (by omega) (by omega) (by decide), qa 64 (by decide) (by decide), v12 64 (by omega) (by omega) (by omega)]; exact w64
  · rw [lI 71 (by omega) (by omega) (by decide), qa 71 (by decide) (by decide), v12 71 (by omega) (by omega) (by omega)]; exact w71
end
