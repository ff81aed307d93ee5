/-! reading: arms: run_arms -/
theorem run_arms {N b : Nat} (hN : 1000 ≤ N) (hx : 1 ≤ b → RUNE N 16 4 11 24 (b - 1)) (hl : 1 ≤ b → RUNL N (b - 1)) : RUNA N 6 4 31 b := by
  intro n s t P hI ht hK hS s10 hb hc hn hF hC
  have hf := hI.1.f0
  have cs := hI.cd
  have hop := hI.op
  have h9 : t < 995 := by omega
  obtain ⟨n', rfl⟩ : ∃ n', n = n' + 1 := ⟨n - 1, by omega⟩
  have push : ((n' + 1 : Nat) : Int) = (n' : Int) + 1 := by omega
  rw [push] at hn hC
  refine lp_19 ht (by omega) hI.2.2.1 hK ?_
  unfold f_X12_arms
  rw [if_pos (tp_ib ht (by omega)), tp_nat ht, if_pos hS]
  obtain ⟨R, eR, y1, y2, y3, y4, y5, y6, y7⟩ := NX hN hI (by rw [s10]; decide)
  have y7 := y7 (Or.inl (by rw [s10]; decide))
  rw [eR]
  clear eR
  have r3 : KP t s R := (KP.rf t s).lx y1
  have r4 : SAME s R := y1.same y3
  have r6 : RATE s R := y1.tbl.rate (by omega) (by omega)
  have mR : MM t s R := ⟨y4, y1.tp.trans ht, r3, r4, y1.i38, r6, by omega, by omega⟩
  have oR : op R = op s := r4.eOp
  refine OPC hN hx (by omega) mR (by omega) hc (by omega) (by omega) hF (fun m A V a1 a2 a3 a4 a5 a6 a7 a8 a9 a10 _ hv hm => ?_)
  have hv' := hv
  obtain ⟨v1, v2, v3, v4, v5, v6, v7, v8, v9, v10, v11, v12⟩ := hv'
  have fv := v1.1.f0
  have cv := v1.cd
  obtain ⟨m3, rfl⟩ : ∃ m3, m = m3 + 1 := ⟨m - 1, by omega⟩
  have push3 : ((m3 + 1 : Nat) : Int) = (m3 : Int) + 1 := by omega
  rw [push3] at hm
  have V64 : V.a 64 t = 19 := by rw [v12 64 (by omega) (by omega) (by omega), a10, y1.1]; exact hK
  refine lp_19 v2 (by omega) v1.2.2.1 V64 ?_
  unfold f_X12_arms
  rw [if_pos (tp_ib v2 (by omega)), tp_nat v2, if_neg (by rw [v11]; decide), if_pos v11]
  obtain ⟨w, ew, x1, x2⟩ := SHO hN v1 41 (by decide)
  rw [ew]
  clear ew
  obtain ⟨w0, hw0⟩ : ∃ w0, w0 = w.2 := ⟨_, rfl⟩
  show ok (((f_X12_emit N w.2 29 (-1)).bind fun p12 => (f_X12_goal N (RS.setI (RS.setA (RS.setA (RS.setA p12.2 66 t p12.1) 67 t (-1)) 68 t 0) 52 ((p12.2.i 52) + 1)) 3 0).bind fun p14 => (f_X12_open N p14.2 123).bind fun p16 => some (RS.setA p16.2 65 t 2)).bind fun p => f_X12_parse_10 N m3 p) P
  rw [← hw0] at x1 x2 ⊢
  clear hw0
  have ksA : KP t s A := r3.tr a3 (Nat.le_refl _)
  have ksv : KP t s V := ksA.tr v3 (Nat.le_refl _)
  have ecw : cdI w0 = cdI V := x1.tbl.cd
  rw [p_em 29 (-1) (by omega) (by omega)]
  obtain ⟨X, hX⟩ : ∃ X, X = EM w0 29 (-1) := ⟨_, rfl⟩
  rw [← hX]
  show ok (((f_X12_goal N (RS.setI (RS.setA (RS.setA (RS.setA X 66 t (w0.i 20)) 67 t (-1)) 68 t 0) 52 ((X.i 52) + 1)) 3 0).bind fun p14 => (f_X12_open N p14.2 123).bind fun p16 => some (RS.setA p16.2 65 t 2)).bind fun p => f_X12_parse_10 N m3 p) P
  obtain ⟨E, hE⟩ : ∃ E, E = (X.setA 66 t (w0.i 20)).setA 67 t (-1) := ⟨_, rfl⟩
  rw [← hE]
  have iE : ∀ j : Nat, j ≠ 20 → E.i j = w0.i j := fun j hj => by rw [hE, hX]; exact EM.i hj
  have cE : cdI E = cdI V + 1 := by rw [hE, hX]; exact (EM.cd (u := w0) (o := 29) (x := -1) (by omega) (by omega)).trans (by rw [ecw])
  have bE : E.b = w0.b := by rw [hE, hX]; rfl
  have kE : KP t V E := by rw [hE, hX]; exact ((((KP.rf t V).lx x1).em cv.1 (by omega)).loc t _ (by omega) (by omega) (Nat.le_refl _)).loc t _ (by omega) (by omega) (Nat.le_refl _)
  have E21 : ∀ j : Nat, E.a 21 j = if j = (cdI V).toNat then 29 else w0.a 21 j := fun j => by rw [hE, setA_nk (by decide), setA_nk (by decide), hX, EM.a21, ecw]
  have E22 : E.a 22 (cdI V).toNat = -1 := by rw [hE, setA_nk (by decide), setA_nk (by decide), hX, EM.a22, if_pos (by rw [ecw])]
  have E66 : E.a 66 t = w0.i 20 := by rw [hE, setA_nk (by decide)]; exact setA_at
  have E67 : E.a 67 t = -1 := by rw [hE]; exact setA_at
  have aE : ∀ k : Nat, k ≠ 21 → k ≠ 22 → k ≠ 23 → k ≠ 66 → k ≠ 67 → E.a k = w0.a k := fun k h1 h2 h3 h4 h5 => by rw [hE, setA_nk h5, setA_nk h4, hX, EM.a h1 h2 h3]
  have tE : ∀ h : MM t s w0, cdI w0 + 1 - cdI s ≤ 3 * (fr w0 - fr s) → MM t s E := fun h q => by rw [hE, hX]; exact ((h.em hI q).loc _ (by omega) (by omega)).loc _ (by omega) (by omega)
  have X38 : X.i 38 = w0.i 38 := by rw [hX]; rfl
  have X52 : X.i 52 = w0.i 52 := by rw [hX]; rfl
  rw [X52]
  clear hX
  clear hE
  obtain ⟨U0, hU0⟩ : ∃ U0, U0 = E.setA 68 t 0 := ⟨_, rfl⟩
  have iU0 : U0.i = E.i := by rw [hU0]; rfl
  have bU0 : U0.b = E.b := by rw [hU0]; rfl
  have kU0 : KP t V U0 := by rw [hU0]; exact kE.loc t _ (by omega) (by omega) (Nat.le_refl _)
  have aU0 : ∀ k : Nat, k ≠ 68 → U0.a k = E.a k := fun k hk => by rw [hU0, setA_nk hk]
  have U068 : U0.a 68 t = 0 := by rw [hU0]; exact setA_at
  have tU0 : MM t s E → MM t s U0 := fun h => by rw [hU0]; exact h.loc _ (by omega) (by omega)
  rw [← hU0]
  clear hU0
  obtain ⟨U, hU⟩ : ∃ U, U = U0.setI 52 ((w0.i 52) + 1) := ⟨_, rfl⟩
  rw [← hU]
  have iU : ∀ j : Nat, j ≠ 52 → U.i j = E.i j := fun j hj => by rw [hU]; exact (if_neg hj).trans (by rw [iU0])
  have U52 : U.i 52 = w0.i 52 + 1 := by rw [hU]; rfl
  have bU : U.b = E.b := by rw [hU]; exact bU0
  have kU : KP t V U := by rw [hU]; exact kU0.i52 _
  have aU : U.a = U0.a := by rw [hU]; rfl
  have tbU : TBL U0 U := by rw [hU]; exact TBL.i52 U0 _
  clear hU
  have gos := hI.2.2.2.2.2.2.2.2.2.2.2.1
  have vgo : goI V = goI s := by
    have e1 : goI V = goI A := v4.go
    have e2 := a4.go
    have e3 := r4.go
    omega
  have gU : goI U = goI s := by
    have e1 : goI U = goI w0 := by unfold goI; rw [iU 43 (by decide), iE 43 (by decide)]
    have e2 := x1.tbl.go
    omega
  rw [p_go 3 0 (by omega) (by omega)]
  show ok (((f_X12_open N (GO U 3 0) 123).bind fun p16 => some (RS.setA p16.2 65 t 2)).bind fun p => f_X12_parse_10 N m3 p) P
  obtain ⟨G, hG⟩ : ∃ G, G = GO U 3 0 := ⟨_, rfl⟩
  have iG : ∀ j : Nat, j ≠ 43 → G.i j = U.i j := fun j hj => by rw [hG]; exact GO.eI hj
  have bG : G.b 9 = U.b 9 := by rw [hG]; rfl
  have gG : goI G = goI s + 1 := by rw [hG]; exact (GO.eGO (u := U) (w := 3) (n := 0) (by omega) (by omega)).trans (by rw [gU])
  have aG : ∀ k : Nat, k < 44 ∨ 51 < k → G.a k = U.a k := fun k h1 => by rw [hG]; exact GO.eA (by omega)
  obtain ⟨γ0, hγ0⟩ : ∃ γ0, γ0 = (U.i 43).toNatClampNeg := ⟨_, rfl⟩
  have gn : (γ0 : Int) = goI s := by rw [hγ0]; exact (gN (by omega)).trans gU
  have G44 : G.a 44 γ0 = 3 := by rw [hG, hγ0]; exact GO.a44
  have G47 : G.a 47 γ0 = U.i 52 := by rw [hG, hγ0]; exact GO.a47
  have G46 : ∀ j : Nat, j ≠ γ0 → G.a 46 j = U.a 46 j := fun j hj => by rw [hG]; exact GO.lo (by rw [← hγ0]; exact hj)
  have kG : KP t V G := by rw [hG]; exact kU.go (by omega) (by omega)
  have IG : INV U → 2 * (goI U + 1) ≤ fr U → INV G := fun h q => by rw [hG]; exact h.go q
  rw [← hG]
  clear hG hγ0
  have i20 : ∀ j : Nat, j ≠ 20 → j ≠ 43 → j ≠ 52 → G.i j = w0.i j := fun j h1 h2 h3 => by rw [iG j h2, iU j h3, iE j h1]
  have lG : LXI G := x1.2.2.2.1.of (i20 2 (by decide) (by decide) (by decide)) (i20 10 (by decide) (by decide) (by decide)) (i20 11 (by decide) (by decide) (by decide)) (i20 12 (by decide) (by decide) (by decide)) (i20 14 (by decide) (by decide) (by decide)) (by rw [bG, bU, bE])
  have r75 : G.i 75 = 0 ∨ G.i 75 = 1 := by rw [i20 75 (by decide) (by decide) (by decide), x1.2.2.1 75 (by omega) (by omega)]; exact v1.r
  have ksG : KP t s G := ksv.tr kG (Nat.le_refl _)
  have flt : ∀ S : RS, LX G S → ¬ S.i 15 = 0 → ok (f_X12_parse_10 N m3 (S.setA 65 t 2)) P := fun S h1 h2 => lp_f (u := S.setA 65 t 2) h2 (hF _ (FS'.loc (FS'.of ksG.1.1 h1 h2 r75) t 2 (by omega) (by omega))) (by omega)
  rcases x2 with x2 | ⟨x2, x3, x4, x5, x6⟩
  · obtain ⟨S, eS, o1, -, -⟩ := p_op hN lG 123 (by decide)
    rw [eS]
    exact flt S.2 o1 (fun q => x2 (by rw [← i20 15 (by decide) (by decide) (by decide)]; exact o1.2.2.2.2.1 q))
  have mB : MM t s w0 := MM.clo hI mR a3 a4 a5 a7 a8 a9 hv x1 x2 x4 x5 x6
  have raw := mB.2.2.2.2.2.1
  have mE : MM t s E := tE mB (by unfold RATE at v6 r6; have h1 := a4.cd; have h2 := y1.tbl.cd; omega)
  have mU0 : MM t s U0 := tU0 mE
  have fU : fr U = fr w0 := by unfold fr; rw [iU 11 (by decide), iE 11 (by decide)]
  have fU0 : fr U0 = fr w0 := by unfold fr; rw [iU0, iE 11 (by decide)]
  have dw : deI w0 = deI s := mB.2.2.2.1.de
  have dU : deI U = deI s + 1 := by
    have e1 : (1 : Int32).toInt = 1 := by decide
    have hh : 0 ≤ deI s ∧ deI s ≤ 300 := by have := hI.2.2.2.2.2.2.2.2.2.2.2.2.1; omega
    have dw' : (w0.i 52).toInt = deI s := dw
    unfold deI
    rw [U52, toInt_add] <;> rw [e1] <;> (unfold deI at *; omega)
  have iiU : INV U := by
    have iw := mU0.1
    have kk : KP t s U := ksv.tr kU (Nat.le_refl _)
    have lU : LXI U := x1.2.2.2.1.of (by rw [iU 2 (by decide), iE 2 (by decide)]) (by rw [iU 10 (by decide), iE 10 (by decide)]) (by rw [iU 11 (by decide), iE 11 (by decide)]) (by rw [iU 12 (by decide), iE 12 (by decide)]) (by rw [iU 14 (by decide), iE 14 (by decide)]) (by rw [bU, bE])
    have d0 : deI U0 = deI s := by unfold deI at *; rw [iU0, iE 52 (by decide)]; exact dw
    refine ⟨lU, hI.2.1.kp kk, by rw [iU 15 (by decide), iE 15 (by decide)]; exact x2, iw.2.2.2.1.tbl tbU (fun γ hγ => by have := (iw.2.2.2.1.2.2.2.2.2.2.1 γ hγ).2; omega) (by rw [iU 75 (by decide), ← iU0]; exact iw.r), ?_⟩
    have nw := iw.2.2.2.2
    have e1 : op U = op U0 := by unfold op; rw [iU 19 (by decide), iU0]
    have e1' : op U0 = op s := mU0.2.2.2.1.eOp
    have e11 : fr U = fr U0 := by omega
    have e12 : tkI U = tkI U0 := by unfold tkI; rw [iU 17 (by decide), iU0]
    have ds := hI.2.2.2.2.2.2.2.2.2.2.2.2.1
    unfold NUM at nw ⊢
    rw [tbU.cd, tbU.en, tbU.tt, tbU.ca, tbU.se, tbU.sl, tbU.go, tbU.wa, tbU.pe, e1, e11, e12, dU]
    omega
  have iiG : INV G := IG iiU (by omega)
  obtain ⟨p, ep, hpp⟩ := OPO (t := t) hN iiG 123 (by decide)
  rw [ep]
  clear ep
  rcases hpp with ⟨p1, p2, p3⟩ | ⟨p1, p2, p3, q1, q2, q3, q4, q5, q6, q7, q8, q9, q10, q11⟩
  · exact flt p.2 p2 p1
  show ok (f_X12_parse_10 N m3 (p.2.setA 65 t 2)) P
  obtain ⟨O, hO⟩ : ∃ O, O = p.2.setA 65 t 2 := ⟨_, rfl⟩
  have iO : O.i = p.2.i := by rw [hO]; rfl
  have aO : ∀ k : Nat, k ≠ 65 → O.a k = G.a k := fun k hk => by rw [hO, setA_nk hk, q10]
  have O65 : O.a 65 t = 2 := by rw [hO]; exact setA_at
  have tbO : TBL G O := by rw [hO]; exact q4.tr (TBL.loc _ t _ (by omega) (by omega))
  have kO : KP t G O := by rw [hO]; exact q3.loc t _ (by omega) (by omega) (Nat.le_refl _)
  have iiO : INV O := by rw [hO]; exact q1.loc t _ (by omega) (by omega)
  rw [← hO]
  clear hO
  have fO : fr O = fr p.2 := by unfold fr; rw [iO]
  have tkO : tkI O = tkI p.2 := by unfold tkI; rw [iO]
  have fG : fr G = fr w0 := by unfold fr; rw [i20 11 (by decide) (by decide) (by decide)]
  have tkG : tkI G = tkI w0 := by unfold tkI; rw [i20 17 (by decide) (by decide) (by decide)]
  have kVO : KP t V O := kG.tr kO (Nat.le_refl _)
  have ek : ((cdI V).toNat : Int) = cdI V := Int.toNat_of_nonneg cv.1
  have cG : cdI G = cdI V + 1 := by
    have : cdI G = cdI E := by unfold cdI; rw [iG 20 (by decide), iU 20 (by decide)]
    omega
  have cO : cdI O = cdI V + 1 := tbO.cd.trans cG
  have m1 : (-1 : Int32).toInt = -1 := by decide
  have ea : ∀ k : Nat, k < 44 ∨ 51 < k → k ≠ 65 → k ≠ 68 → O.a k = E.a k := fun k h1 h2 h3 => (aO k h2).trans ((aG k h1).trans (by rw [aU, aU0 k h3]))
  have O38 : O.i 38 = s.i 38 := by rw [iO, q11.2.2.1 38 (by omega) (by omega), i20 38 (by decide) (by decide) (by decide)]; exact mB.2.2.2.2.1
  have V38 : V.i 38 = s.i 38 := v5.trans ((a4.2.2 38 (by omega) (by omega) (by omega) (by omega)).trans y1.i38)
  have A52 : A.i 52 = s.i 52 := a7.trans r4.2.2.1
  have d1 : V.i 52 = s.i 52 := v4.2.2.1.trans A52
  have een : enI O = enI w0 := by
    have h1 : enI O = enI G := tbO.en
    have h2 : enI G = enI w0 := by unfold enI; rw [i20 24 (by decide) (by decide) (by decide)]
    omega
  have ewV : enI w0 = enI V := x1.tbl.en
  have eA : enI A = enI R := a4.en
  have eRn : enI R = enI s := y1.tbl.en
  have gi : AI t s V γ0 [] [] O := by
    refine ⟨⟨iiO, by unfold tpI; rw [iO]; exact q2.trans ((congrArg Int32.toInt (i20 63 (by decide) (by decide) (by decide))).trans mB.2.1), kVO⟩, ⟨?_, by rw [tbO.go]; exact gG, ?_, ?_, O38⟩, ⟨?_, by omega, ?_⟩, ⟨?_, ?_, Or.inl ⟨rfl, ?_⟩⟩, ⟨by omega, ?_, ?_, fun j hj => absurd hj List.not_mem_nil⟩, ⟨?_, ?_, fun j hj => ?_⟩, fun _ => TSA.nil _ _ _, fun j hj => hj, fun j hj => absurd hj List.not_mem_nil⟩
    · rw [iO, q5, i20 19 (by decide) (by decide) (by decide), mB.2.2.2.1.1]
    · rw [iO, q7, iG 52 (by decide), U52, mB.2.2.2.1.2.2.1]
    · rw [iO, q11.2.2.1 56 (by omega) (by omega), i20 56 (by decide) (by decide) (by decide)]; exact mB.2.2.2.1.2.2.2
    · have h3 : trI O = trI w0 := by rw [tbO.tt]; unfold trI; rw [i20 29 (by decide) (by decide) (by decide)]
      have h4 : caI O = caI w0 := by rw [tbO.ca]; unfold caI; rw [i20 33 (by decide) (by decide) (by decide)]
      have h5 : slI O = slI w0 := by rw [tbO.sl]; unfold slI; rw [i20 42 (by decide) (by decide) (by decide)]
      have h6 : peI O = peI w0 := by rw [tbO.pe]; unfold peI; rw [i20 59 (by decide) (by decide) (by decide)]
      unfold RATE at raw ⊢
      rw [een, h3, h4, h5, h6]
      omega
    · have := mB.2.2.2.2.2.2.2
      omega
    · rw [ea 64 (by omega) (by decide) (by decide), aE 64 (by decide) (by decide) (by decide) (by decide) (by decide), x1.1]; exact V64
    · rw [ea 66 (by omega) (by decide) (by decide), E66]; exact ecw
    · rw [ea 67 (by omega) (by decide) (by decide), E67, m1]; decide
    · rw [ea 21 (by omega) (by decide) (by decide), E21, if_pos rfl]
    · show gv O 22 _ < 0
      unfold gv
      rw [ea 22 (by omega) (by decide) (by decide), E22, m1]; decide
    · rw [aO 44 (by decide)]; exact G44
    · unfold gv
      rw [aO 47 (by decide), G47]
      exact dU
    · rw [aO 46 (by decide), G46 j (by omega), aU, aU0 46 (by decide), aE 46 (by decide) (by decide) (by decide) (by decide) (by decide), x1.1, v10.1 j (by have h1 := a4.go; have h2 := r4.go; omega), a10, y1.1]
  have g68 : G68 t [] O := Or.inl (by rw [aO 68 (by decide), aG 68 (by omega), aU]; exact U068)
  obtain ⟨m4, rfl⟩ : ∃ m4, m3 = m4 + 1 := ⟨m3 - 1, by omega⟩
  have push4 : ((m4 + 1 : Nat) : Int) = (m4 : Int) + 1 := by omega
  rw [push4] at hm
  have fOf := iiO.1.f0
  have cRs : cdI R = cdI s := y1.tbl.cd
  exact ARS (B0 := (n' : Int) + 1 + 40 * fr s + 31) hN hx hl hI hb h9 hc hF s10 ksA (by have h1 := a4.cd; omega) ((a4.2.2 38 (by omega) (by omega) (by omega) (by omega)).trans y1.i38) A52 (by omega) v9 v3 v1 d1 v7 vgo V38 gn hC 1000 m4 2 [] [] O gi g68 O65 (Or.inl ⟨rfl, rfl⟩) (by unfold RATE at v6; omega) (by omega) (by omega) (by omega)
