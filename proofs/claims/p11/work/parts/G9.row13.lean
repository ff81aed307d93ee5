/-! reading: for over rows: its end -/
def RWS (t : Nat) (s Q v2 : RS) (γ0 L : Nat) : Prop := ∀ (W : RS) (Lc Lb : List Nat) (xc xc' xb : Int32), PPR γ0 Lc Lb xc xb (fun k => k = L) v2 W → TN W → cdI W = cdI v2 + 2 → xc.toInt = L → xb.toInt = cdI v2 + 1 → W.a 22 L = xb → W.a 21 (cdI v2).toNat = 15 → W.a 22 (cdI v2).toNat = xc' → xc'.toInt = L → W.a 21 (cdI v2 + 1).toNat = 25 → (∀ w : Nat, (w : Int) < waI v2 → gv v2 58 w ≤ γ0) → W.i 75 = 1 → seI Q ≤ seI W → W.i 18 = v2.i 18 → (∀ k : Nat, 64 ≤ k → k ≤ 73 → bel k t v2 W) → (∀ j : Nat, j < 10 → W.i j = v2.i j) → TS s W
theorem RO13 {N : Nat} (hN : 4000 ≤ N) {m : Nat} {s Q B2 v2 : RS} {t γ0 L : Nat} {P : RS → Prop} (hI : INV s) (h9 : t < 998) (kB : KP t s B2) (QB : KP t Q B2) (sQ : KP t s Q) (B19 : B2.i 19 = s.i 19) (B52 : B2.i 52 = s.i 52 + 1) (B56 : B2.i 56 = s.i 56) (fB : fr s ≤ fr B2) (tkB : tkI s ≤ tkI B2) (raB : RATE s B2) (raS : cdI B2 + 2 - cdI s ≤ 3 * (fr B2 - fr s)) (B64 : B2.a 64 t = 12) (B66 : (B2.a 66 t).toInt = L) (B71 : B2.a 71 t = s.i 38) (B73 : (B2.a 73 t).toInt = γ0) (Ls : cdI s ≤ (L : Int)) (LB : (L : Int) < cdI B2) (B21L : B2.a 21 L = 24) (g0 : (γ0 : Int) = goI s) (gB : goI B2 = goI s + 1) (bB : ∀ b : Bool, hd B2 b γ0 = -1) (snB : SNW s B2) (hv : PCS t 13 B2 v2) (hT : ¬ 0 ≤ v2.i 18 → RWS t s Q v2 γ0 L) (hC : ∀ (u : RS), PS t s u → fr v2 ≤ fr u → ok (f_X12_parse_10 N m u) P) : ok (f_X12_parse_10 N (m + 1) v2) P := by
  have hv' := hv
  obtain ⟨w1, w2, w3, w4, w5, w6, w7, w8, w9, w10, w11⟩ := hv'
  have fv := w1.1.f0
  have cw := w1.cd
  have cs := hI.cd
  have le2 := w3.2.1.1
  have gos := hI.2.2.2.2.2.2.2.2.2.2.2.1
  have hf := hI.1.f0
  have g2 : goI v2 = (γ0 : Int) + 1 := by have := w4.go; omega
  have e73 : (v2.a 73 t).toInt = γ0 := by rw [w11 73 (by omega) (by omega) (by omega)]; exact B73
  have n73 := k_nat e73
  have ib73 : ib (v2.a 73 t) 460 := ⟨by omega, by omega⟩
  have k66 : (v2.a 66 t).toInt = L := by rw [w11 66 (by omega) (by omega) (by omega)]; exact B66
  have n66 := k_nat k66
  have e21 : v2.a 21 L = 24 := by rw [w3.2.1.2.1 _ LB]; exact B21L
  refine lp_12 w2 (by omega) w1.2.2.1 ((w11 64 (by omega) (by omega) (by omega)).trans B64) ?_
  unfold f_X12_fors
  rw [if_pos (tp_ib w2 (by omega)), tp_nat w2, if_neg (by rw [w10]; decide), if_neg (by rw [w10]; decide), if_neg (by rw [w10]; decide), if_neg (by rw [w10]; decide), if_neg (by rw [w10]; decide), if_neg (by rw [w10]; decide), if_neg (by rw [w10]; decide), if_neg (by rw [w10]; decide), if_neg (by rw [w10]; decide), bind_some]
  unfold f_X12_rows
  rw [if_pos (tp_ib w2 (by omega)), tp_nat w2, if_neg (by rw [w10]; decide), if_neg (by rw [w10]; decide), if_pos ib73, n73]
  obtain ⟨Lc, Lb, Q1, Q2, Q3, x, c1, b1, c2, b2, e1, a1, e2, e20, a2, e3, qi, qb, qc, xc, qa, q21, q15, qfp, q22, qLc, qLb, qk1⟩ := PATCHES (fp := v2.a 66 t) hN w1 (γ0 := γ0) (k1 := L) (by omega) (by omega) (by rw [e21]; decide)
  rw [e1]
  show ok (((f_X12_emit N Q1 15 (Q1.a 66 t)).bind fun p7 => if ib (p7.2.a 66 t) 3000 then (f_X12_patch N (RS.setA p7.2 22 (((p7.2.a 66 t) : Int32).toNatClampNeg) (p7.2.i 20)) (p7.2.a 48 γ0) (p7.2.i 20)).bind fun p10 => (f_X12_emit N p10 25 0).bind fun p12 => (f_X12_over N (RS.setI (RS.setI (RS.setI p12.2 52 ((p12.2.i 52) - 1)) 43 ((p12.2.i 43) - 1)) 38 (p12.2.a 71 t)) 1).bind fun p14 => some p14 else none).bind fun p => f_X12_parse_10 N m p) P
  rw [a1 66 (by decide), e2]
  show ok ((if ib (Q2.a 66 t) 3000 then (f_X12_patch N (RS.setA Q2 22 (((Q2.a 66 t) : Int32).toNatClampNeg) (Q2.i 20)) (Q2.a 48 γ0) (Q2.i 20)).bind fun p10 => (f_X12_emit N p10 25 0).bind fun p12 => (f_X12_over N (RS.setI (RS.setI (RS.setI p12.2 52 ((p12.2.i 52) - 1)) 43 ((p12.2.i 43) - 1)) 38 (p12.2.a 71 t)) 1).bind fun p14 => some p14 else none : Option RS).bind fun p => f_X12_parse_10 N m p) P
  rw [a2 66 (by decide) (by decide) (by decide), a2 48 (by decide) (by decide) (by decide), if_pos (show ib (v2.a 66 t) 3000 from ⟨by omega, by omega⟩), n66, e20, e3]
  show ok (((f_X12_emit N Q3 25 0).bind fun p12 => (f_X12_over N (RS.setI (RS.setI (RS.setI p12.2 52 ((p12.2.i 52) - 1)) 43 ((p12.2.i 43) - 1)) 38 (p12.2.a 71 t)) 1).bind fun p14 => some p14).bind fun p => f_X12_parse_10 N m p) P
  rw [p_em 25 0 (by omega) (by omega)]
  obtain ⟨E, hE⟩ : ∃ E, E = EM Q3 25 0 := ⟨_, rfl⟩
  have iE : ∀ j : Nat, j ≠ 20 → E.i j = v2.i j := fun j hj => by rw [hE, EM.i hj]; exact qi j hj
  have cE : cdI E = cdI v2 + 2 := by rw [hE, EM.cd (by omega) (by omega)]; omega
  have aE : ∀ k : Nat, k ≠ 21 → k ≠ 22 → k ≠ 23 → E.a k = v2.a k := fun k h1 h2 h3 => by rw [hE, EM.a h1 h2 h3]; exact qa k h1 h2 h3
  have E21 : ∀ j : Nat, E.a 21 j = if j = (cdI Q3).toNat then 25 else Q3.a 21 j := fun j => by rw [hE]; exact EM.a21 j
  have E22 : ∀ j : Nat, j ≠ (cdI Q3).toNat → E.a 22 j = Q3.a 22 j := fun j hj => by rw [hE, EM.a22, if_neg hj]
  have E23 : ∀ j : Nat, j ≠ (cdI Q3).toNat → E.a 23 j = Q3.a 23 j := fun j hj => by rw [hE]; exact (EM.a23 j).trans (if_neg hj)
  have bE : E.b = v2.b := by rw [hE]; exact qb
  show ok (((f_X12_over N (RS.setI (RS.setI (RS.setI (EM Q3 25 0) 52 (((EM Q3 25 0).i 52) - 1)) 43 (((EM Q3 25 0).i 43) - 1)) 38 ((EM Q3 25 0).a 71 t)) 1).bind fun p14 => some p14).bind fun p => f_X12_parse_10 N m p) P
  rw [← hE]
  clear hE
  have e71 : E.a 71 t = s.i 38 := by rw [aE 71 (by decide) (by decide) (by decide), w11 71 (by omega) (by omega) (by omega)]; exact B71
  rw [e71]
  obtain ⟨V, hV⟩ : ∃ V, V = RS.setI E 43 ((E.i 43) - 1) := ⟨_, rfl⟩
  have va : V.a = E.a := by rw [hV]; rfl
  have vi : ∀ j : Nat, j ≠ 20 → j ≠ 43 → V.i j = v2.i j := fun j h1 h2 => by rw [hV]; exact (if_neg h2).trans (iE j h1)
  have v20 : V.i 20 = E.i 20 := by rw [hV]; rfl
  have V43 : V.i 43 = E.i 43 - 1 := by rw [hV]; rfl
  have v43 : goI V = γ0 := by
    have e1' : (1 : Int32).toInt = 1 := by decide
    have g2' : (v2.i 43).toInt = (γ0 : Int) + 1 := g2
    unfold goI
    rw [V43, iE 43 (by decide), toInt_sub] <;> rw [e1'] <;> omega
  have vb : V.b = v2.b := by rw [hV]; exact bE
  clear hV
  obtain ⟨G, hG⟩ : ∃ G, G = RS.setI (RS.setI (RS.setI E 52 ((E.i 52) - 1)) 43 ((E.i 43) - 1)) 38 (s.i 38) := ⟨_, rfl⟩
  have ga : G.a = E.a := by rw [hG]; rfl
  have gi : ∀ j : Nat, j ≠ 38 → j ≠ 43 → j ≠ 52 → G.i j = E.i j := fun j h1 h2 h3 => by rw [hG]; exact (if_neg h1).trans ((if_neg h2).trans (if_neg h3))
  have G38 : G.i 38 = s.i 38 := by rw [hG]; rfl
  have G43 : G.i 43 = E.i 43 - 1 := by rw [hG]; rfl
  have G52 : G.i 52 = s.i 52 := by
    have : G.i 52 = E.i 52 - 1 := by rw [hG]; rfl
    rw [this, iE 52 (by decide), w4.2.2.1, B52, Int32.add_sub_cancel]
  have gb : G.b = v2.b := by rw [hG]; exact bE
  rw [← hG]
  clear hG
  have cV : cdI V = cdI v2 + 2 := by have : cdI V = cdI E := by { unfold cdI; rw [v20] }; omega
  have hpp : PPR γ0 Lc Lb (v2.a 66 t) x (fun k => k = L) v2 V := by
    refine ⟨⟨fun k h1 h2 => by rw [va]; exact aE k (by omega) (by omega) (by omega), by rw [vb], fun j h1 h2 h3 h4 h5 h6 => vi j (by omega) h3⟩, by omega, v43, g2, c1, b1, fun k hk => ?_, fun k hk h1 h2 h3 => ?_, fun k hk => ?_, fun k hk => ?_, fun k hk => ?_⟩
    · rw [va, E21, if_neg (by omega), E23 k (by omega)]; exact q21 k hk
    · rw [va, E22 k (by omega)]; exact q22 k hk h1 h2 h3
    · rw [va, E22 k (by have := c2 k hk; omega)]; exact qLc k hk
    · rw [va, E22 k (by have := b2 k hk; omega)]; exact qLb k hk
    · have hk : k = L := hk
      rw [hk, e21]; decide
  have t2 := w1.2.2.2.1
  have hchn := hpp.chn t2
  have ksv2 : KP t s v2 := kB.tr w3 (Nat.le_refl _)
  have sn2 : SNW s v2 := snB.tr w6 kB w3
  have ra2 : RATE s v2 := raB.tr w5
  have ns : ∀ k : Nat, k ∈ Lc ∨ k ∈ Lb → cdI B2 ≤ (k : Int) := fun k hk => by
    rcases hk with hk | hk
    · exact (new_sites w3 bB (by omega) c1 k hk).1
    · exact (new_sites w3 bB (by omega) b1 k hk).1
  have seV : seI V = seI v2 := by unfold seI; rw [vi 38 (by decide) (by decide)]
  have vfr : ∀ k : Nat, 64 ≤ k → k ≤ 73 → bel k t v2 V := fun k k1' k2' j _ => by rw [va, aE k (by omega) (by omega) (by omega)]
  have se2 := ksv2.2.2.2.2.2.1.1
  have ksV : KP t s V := ksv2.ppr hpp t2 (by omega) (by omega) (vi 18 (by decide) (by decide)) (fun k hk => by
    rcases hk with q | q | q
    · have := ns k (Or.inl q); omega
    · have := ns k (Or.inr q); omega
    · have q : k = L := q
      omega) vfr
  have kw := ksv2.2.2.2.2.2.2.2.2.1
  have hww : ∀ w : Nat, (w : Int) < waI v2 → gv v2 58 w ≤ γ0 := fun w hw => by
    have e1 : waI v2 = waI s := by have : waI v2 = waI B2 := w4.wa; have : waI B2 = waI s := by { unfold waI; rw [B56] }; omega
    have := (hI.2.2.2.1.2.2.2.2.2.2.2.2.1 w (by omega)).2.2.2
    have e : gv v2 58 w = gv s 58 w := by unfold gv; rw [kw.2.2 w (by omega)]
    omega
  have tVG : TBS V G := ⟨⟨fun k _ _ => by rw [ga, va], by rw [gb, vb], fun j h1 h2 h3 h4 h5 h6 => by rw [gi j h2 h3 (by omega), vi j (by omega) h3, iE j (by omega)]⟩, fun k _ _ => by rw [ga, va], by rw [gi 20 (by decide) (by decide) (by decide), v20], by rw [G43, V43]⟩
  have seG : seI G = seI s := by unfold seI; rw [G38]
  have kG : KP t s G := ksV.tbs tVG (by omega) (fun q => by rw [gi 18 (by decide) (by decide) (by decide), iE 18 (by decide), ← vi 18 (by decide) (by decide)]; exact q) (fun k _ _ j _ => by rw [ga, va])
  have eqG : EQT v2 G := ⟨fun k h1 h2 => (tVG.1.1 k h1 h2).trans (hpp.1.1 k h1 h2), tVG.1.2.1.trans hpp.1.2.1, fun j h1' h2' h3' h4' h5' h6' => (tVG.1.2.2 j h1' h2' h3' h4' h5' h6').trans (hpp.1.2.2 j h1' h2' h3' h4' h5' h6')⟩
  have gG : goI G = γ0 := by rw [tVG.go]; exact v43
  have cG : cdI G = cdI v2 + 2 := by rw [tVG.cd]; exact cV
  have chG : CHN v2 G := fun γ b L' y hγ hI' hy => by
    have := hchn γ b L' y (by omega) hI' hy
    rw [ga, ← va]
    exact this
  have snG : SNW s G := SNW.eq G38 kG.2.2.2.2.2.1.2.1
  refine LEND0 (x := 1) h9 (Or.inr rfl) hC hI eqG chG (by omega) (by omega) (by omega) kG w1 (fun j j1 j2 j3 j4 => by rw [gi j j2 j3 j4]; exact iE j j1) w2 ksv2 (w4.1.trans B19) G52 (w4.2.2.2.trans B56) (by omega) snG ra2 ?_ (by omega) (by omega) (fun q => ?_)
  · unfold RATE at w5; omega
  · have hppY : PPR γ0 Lc Lb (v2.a 66 t) x (fun k => k = L) v2 (V.setI 75 1) := hpp.i (TBL.i75 V 1).tbs
    have tY : TAB (V.setI 75 1) := t2.fin hppY.1 (hppY.chn t2) (by show cdI v2 ≤ cdI V; omega) (by show goI V ≤ goI v2; omega) (by show seI V ≤ seI v2; omega) (fun γ hγ => by
      have hγ : (γ : Int) < goI V := hγ
      have := (t2.2.2.2.2.2.2.1 γ (by omega)).2
      have e : deI (V.setI 75 1) = deI v2 := by show (V.i 52).toInt = (v2.i 52).toInt; rw [vi 52 (by decide) (by decide)]
      omega) (fun w hw => by show gv v2 58 w ≤ goI V; have := hww w hw; omega) (Or.inr rfl)
    have seQ := (QB.tr w3 (Nat.le_refl _)).2.2.2.2.2.1.1
    have tS : TS s (V.setI 75 1) := by
      refine hT q (V.setI 75 1) Lc Lb (v2.a 66 t) (v2.a 66 t) x hppY tY.1.1 cV k66 (by omega) ?_ ?_ ?_ k66 ?_ hww rfl ?_ (vi 18 (by decide) (by decide)) vfr (fun j hj => (if_neg (show ¬ j = 75 by omega)).trans (vi j (by omega) (by omega)))
      · show V.a 22 L = x; rw [va, E22 L (by omega)]; exact qk1
      · show V.a 21 (cdI v2).toNat = 15; rw [va, E21, if_neg (by omega)]; exact q15
      · show V.a 22 (cdI v2).toNat = v2.a 66 t; rw [va, E22 _ (by omega)]; exact qfp
      · show V.a 21 (cdI v2 + 1).toNat = 25; rw [va, E21, if_pos (by rw [qc])]
      · show seI Q ≤ seI V; omega
    exact tS.tbs (TBL.rf s) (((TBL.i75 V 1).sy.tbs.tr tVG).tr (TBL.i75 G 1).tbs) rfl (Int.le_refl _) (by omega) (fun r => r)
