/-! reading: switch: its head -/
theorem INV.go {u : RS} {w : Int32} {n : Int64} (h : INV u) (h2 : 2 * (goI u + 1) ≤ fr u) : INV (GO u w n) := by
  obtain ⟨x1, x2, x3, x4, x5⟩ := h
  have g := x5.2.2.2.2.2.2.2.1
  have d := x5.2.2.2.2.2.2.2.2.1
  have hf := x1.f0
  have eg := GO.eGO (u := u) (w := w) (n := n) g.1 (by omega)
  have ei : ∀ j : Nat, j ≠ 43 → (GO u w n).i j = u.i j := fun j hj => GO.eI hj
  have ea : ∀ k : Nat, k < 44 → (GO u w n).a k = u.a k := fun k hk => GO.eA (Or.inl hk)
  have tX := x4.go (w := w) (n := n) g.1 (by omega) d.1
  have bX : (GO u w n).b 9 = u.b 9 := rfl
  generalize GO u w n = X at *
  refine ⟨x1.of (ei 2 (by decide)) (ei 10 (by decide)) (ei 11 (by decide)) (ei 12 (by decide)) (ei 14 (by decide)) bX, RB.of (ei 2 (by decide)) (ei 3 (by decide)) (ea 4 (by decide)) (ea 6 (by decide)) (ea 7 (by decide)) x2, (ei 15 (by decide)).trans x3, tX, ?_⟩
  have e1 := op_of (ei 19 (by decide))
  have e2 : cdI X = cdI u := by unfold cdI; rw [ei 20 (by decide)]
  have e0 : enI X = enI u := by unfold enI; rw [ei 24 (by decide)]
  have e3 : trI X = trI u := by unfold trI; rw [ei 29 (by decide)]
  have e4 : caI X = caI u := by unfold caI; rw [ei 33 (by decide)]
  have e5 : seI X = seI u := by unfold seI; rw [ei 38 (by decide)]
  have e6 : slI X = slI u := by unfold slI; rw [ei 42 (by decide)]
  have e8 : deI X = deI u := by unfold deI; rw [ei 52 (by decide)]
  have e9 : waI X = waI u := by unfold waI; rw [ei 56 (by decide)]
  have e10 : peI X = peI u := by unfold peI; rw [ei 59 (by decide)]
  have e11 : fr X = fr u := by unfold fr; rw [ei 11 (by decide)]
  have e12 : tkI X = tkI u := by unfold tkI; rw [ei 17 (by decide)]
  unfold NUM at x5 ⊢
  rw [e1, e2, e0, e3, e4, e5, e6, eg, e8, e9, e10, e11, e12]
  omega
theorem PRL.go {u : RS} {w : Int32} {n : Int64} (h : PRL u) (h0 : 0 ≤ goI u) (h4 : goI u < 460) (hw : ¬ w = 2) : PRL (GO u w n) := by
  have eg := GO.eGO (u := u) (w := w) (n := n) h0 h4
  have gn := gN h0
  have lo : ∀ (k j : Nat), j ≠ (u.i 43).toNatClampNeg → (GO u w n).a k j = u.a k j := fun k j hj => GO.lo hj
  have v44 : (GO u w n).a 44 (u.i 43).toNatClampNeg = w := GO.a44
  generalize GO u w n = X at *
  refine ⟨fun γ a1 a2 a3 => ?_, fun γ a1 => ?_⟩
  · by_cases e : γ = (u.i 43).toNatClampNeg
    · subst e
      rw [v44] at a2
      exact absurd a2 hw
    · have e1 := a1.1
      have au : ACC u γ := ⟨by omega, by rw [← lo 44 γ e]; exact a1.2.1, fun δ d1 d2 => by rw [← lo 44 δ (by omega)]; exact a1.2.2 δ d1 (by omega)⟩
      have e46 : gv X 46 γ = gv u 46 γ := by unfold gv; rw [lo 46 γ e]
      rw [e46] at a3 ⊢
      obtain ⟨l1, l2, l3⟩ := h.1 γ au (by rw [← lo 44 γ e]; exact a2) a3
      exact ⟨l1, by omega, by rw [lo 44 _ (by omega)]; exact l3⟩
  · have := (a1.2 (u.i 43).toNatClampNeg (by have := a1.1; omega) (by omega)).1
    rw [v44] at this
    exact absurd this hw
theorem run_groups {N b : Nat} (hN : 4000 ≤ N) (hx : 1 ≤ b → RUNE N 16 4 11 24 (b - 1)) (hl : 1 ≤ b → RUNL N (b - 1)) : RUNU N b 14 (fun x => x = 428) := by
  intro n s u t P hI hp ht hu tu u15 hT hz h9 hb hc hn n1 hF hC
  have hN1 : 1000 ≤ N := by omega
  have hf := hI.1.f0
  have cs := hI.cd
  have hpl : PRL s := hp.prl (by rw [hT]; decide)
  refine lp_14 tu (by omega) u15 hu.2.2.2.2.2.2.1 ?_
  unfold f_X12_groups
  rw [if_pos (tp_ib tu (by omega)), tp_nat tu, if_pos hu.2.2.2.2.2.2.2.1]
  obtain ⟨R, eR, hR, xR⟩ := STA hN1 hI ht hz hu
  have mR := hR.mm
  obtain ⟨r1, r2, r3, r4, r5, r6, r7, r8, r9, r10, r11, r12, r13, r14⟩ := hR
  have r13 := r13 (by rw [hT]; decide)
  rw [eR]
  have oR : op R = op s := r4.eOp
  refine OPC hN1 hx h9 mR (by omega) hc (by omega) n1 hF (fun m A V a1 a2 a3 a4 a5 a6 a7 a8 a9 a10 _ hv hm => ?_)
  have hv' := hv
  obtain ⟨v1, v2, v3, v4, v5, v6, v7, v8, v9, v10, v11, v12⟩ := hv'
  have fv := v1.1.f0
  have cv := v1.cd
  obtain ⟨m3, rfl⟩ : ∃ m3, m = m3 + 1 := ⟨m - 1, by omega⟩
  have push3 : ((m3 + 1 : Nat) : Int) = (m3 : Int) + 1 := by omega
  rw [push3] at hm
  refine lp_14 v2 (by omega) v1.2.2.1 (by rw [v12 64 (by omega) (by omega) (by omega), a10]; exact r11) ?_
  unfold f_X12_groups
  rw [if_pos (tp_ib v2 (by omega)), tp_nat v2, if_neg (by rw [v11]; decide), if_pos v11]
  obtain ⟨w, ew, x1, x2⟩ := SHO hN1 v1 41 (by decide)
  rw [ew]
  clear ew
  obtain ⟨w0, hw0⟩ : ∃ w0, w0 = w.2 := ⟨_, rfl⟩
  show ok (((f_X12_emit N w.2 28 (-1)).bind fun p12 => (f_X12_goal N (RS.setA (RS.setA (RS.setA (RS.setA (RS.setA p12.2 66 t p12.1) 67 t (-1)) 68 t 0) 70 t 1) 71 t (p12.2.i 38)) 1 0).bind fun p14 => (f_X12_open N (RS.setA p14.2 72 t p14.1) 123).bind fun p16 => some (RS.setA p16.2 65 t 2)).bind fun p => f_X12_parse_10 N m3 p) P
  rw [← hw0] at x1 x2 ⊢
  clear hw0
  have ksA : KP t s A := r3.tr a3 (Nat.le_refl _)
  have ksv : KP t s V := ksA.tr v3 (Nat.le_refl _)
  have ecw : cdI w0 = cdI V := x1.tbl.cd
  rw [p_em 28 (-1) (by omega) (by omega)]
  obtain ⟨X, hX⟩ : ∃ X, X = EM w0 28 (-1) := ⟨_, rfl⟩
  rw [← hX]
  show ok (((f_X12_goal N (RS.setA (RS.setA (RS.setA (RS.setA (RS.setA X 66 t (w0.i 20)) 67 t (-1)) 68 t 0) 70 t 1) 71 t (X.i 38)) 1 0).bind fun p14 => (f_X12_open N (RS.setA p14.2 72 t p14.1) 123).bind fun p16 => some (RS.setA p16.2 65 t 2)).bind fun p => f_X12_parse_10 N m3 p) P
  obtain ⟨E, hE⟩ : ∃ E, E = (X.setA 66 t (w0.i 20)).setA 67 t (-1) := ⟨_, rfl⟩
  rw [← hE]
  have iE : ∀ j : Nat, j ≠ 20 → E.i j = w0.i j := fun j hj => by rw [hE, hX]; exact EM.i hj
  have cE : cdI E = cdI V + 1 := by rw [hE, hX]; exact (EM.cd (u := w0) (o := 28) (x := -1) (by omega) (by omega)).trans (by rw [ecw])
  have bE : E.b = w0.b := by rw [hE, hX]; rfl
  have kE : KP t V E := by rw [hE, hX]; exact ((((KP.rf t V).lx x1).em cv.1 (by omega)).loc t _ (by omega) (by omega) (Nat.le_refl _)).loc t _ (by omega) (by omega) (Nat.le_refl _)
  have E21 : ∀ j : Nat, E.a 21 j = if j = (cdI V).toNat then 28 else w0.a 21 j := fun j => by rw [hE, setA_nk (by decide), setA_nk (by decide), hX, EM.a21, ecw]
  have E22 : E.a 22 (cdI V).toNat = -1 := by rw [hE, setA_nk (by decide), setA_nk (by decide), hX, EM.a22, if_pos (by rw [ecw])]
  have E66 : E.a 66 t = w0.i 20 := by rw [hE, setA_nk (by decide)]; exact setA_at
  have E67 : E.a 67 t = -1 := by rw [hE]; exact setA_at
  have aE : ∀ k : Nat, k ≠ 21 → k ≠ 22 → k ≠ 23 → k ≠ 66 → k ≠ 67 → E.a k = w0.a k := fun k h1 h2 h3 h4 h5 => by rw [hE, setA_nk h5, setA_nk h4, hX, EM.a h1 h2 h3]
  have tE : ∀ h : MM t s w0, cdI w0 + 1 - cdI s ≤ 3 * (fr w0 - fr s) → MM t s E := fun h q => by rw [hE, hX]; exact ((h.em hI q).loc _ (by omega) (by omega)).loc _ (by omega) (by omega)
  have X38 : X.i 38 = w0.i 38 := by rw [hX]; rfl
  have X52 : X.i 52 = w0.i 52 := by rw [hX]; rfl
  rw [X38]
  clear hX
  clear hE
  obtain ⟨U, hU⟩ : ∃ U, U = ((E.setA 68 t 0).setA 70 t 1).setA 71 t (w0.i 38) := ⟨_, rfl⟩
  rw [← hU]
  have iU : U.i = E.i := by rw [hU]; rfl
  have bU : U.b = E.b := by rw [hU]; rfl
  have kU : KP t V U := by rw [hU]; exact ((kE.loc t _ (by omega) (by omega) (Nat.le_refl _)).loc t _ (by omega) (by omega) (Nat.le_refl _)).loc t _ (by omega) (by omega) (Nat.le_refl _)
  have aU : ∀ k : Nat, k ≠ 68 → k ≠ 70 → k ≠ 71 → U.a k = E.a k := fun k h1 h2 h3 => by rw [hU, setA_nk h3, setA_nk h2, setA_nk h1]
  have U68 : U.a 68 t = 0 := by rw [hU, setA_nk (by decide), setA_nk (by decide)]; exact setA_at
  have U70 : U.a 70 t = 1 := by rw [hU, setA_nk (by decide)]; exact setA_at
  have U71 : U.a 71 t = w0.i 38 := by rw [hU]; exact setA_at
  have tU : MM t s E → MM t s U := fun h => by rw [hU]; exact ((h.loc _ (by omega) (by omega)).loc _ (by omega) (by omega)).loc _ (by omega) (by omega)
  clear hU
  have gos := hI.2.2.2.2.2.2.2.2.2.2.2.1
  have vgo : goI V = goI s := by
    have e1 : goI V = goI A := v4.go
    have e2 := a4.go
    have e3 := r4.go
    omega
  have gU : goI U = goI s := by
    have e1 : goI U = goI w0 := by unfold goI; rw [iU, iE 43 (by decide)]
    have e2 := x1.tbl.go
    omega
  rw [p_go 1 0 (by omega) (by omega)]
  obtain ⟨Y, hY⟩ : ∃ Y, Y = GO U 1 0 := ⟨_, rfl⟩
  rw [← hY]
  show ok (((f_X12_open N (RS.setA Y 72 t (U.i 43)) 123).bind fun p16 => some (RS.setA p16.2 65 t 2)).bind fun p => f_X12_parse_10 N m3 p) P
  have iY : ∀ j : Nat, j ≠ 43 → Y.i j = U.i j := fun j hj => by rw [hY]; exact GO.eI hj
  have bY : Y.b 9 = U.b 9 := by rw [hY]; rfl
  have gY : goI Y = goI s + 1 := by rw [hY, GO.eGO (by omega) (by omega), gU]
  have aY : ∀ k : Nat, k < 44 ∨ 51 < k → Y.a k = U.a k := fun k h1 => by rw [hY]; exact GO.eA (by omega)
  obtain ⟨γ0, hγ0⟩ : ∃ γ0, γ0 = (U.i 43).toNatClampNeg := ⟨_, rfl⟩
  have gn : (γ0 : Int) = goI s := by rw [hγ0]; exact (gN (by omega)).trans gU
  have Y44 : Y.a 44 γ0 = 1 := by rw [hY, hγ0]; exact GO.a44
  have Y47 : Y.a 47 γ0 = U.i 52 := by rw [hY, hγ0]; exact GO.a47
  have Yhd : hd Y true γ0 = -1 := by rw [hY, hγ0]; exact GO.eHD0
  have kY : KP t V Y := by rw [hY]; exact kU.go (by omega) (by omega)
  have IY : INV U → 2 * (goI U + 1) ≤ fr U → INV Y := fun h q => by rw [hY]; exact h.go q
  have PY : PRL U → PRL Y := fun h => by rw [hY]; exact h.go (by omega) (by omega) (by decide)
  clear hY hγ0
  obtain ⟨G, hG⟩ : ∃ G, G = Y.setA 72 t (U.i 43) := ⟨_, rfl⟩
  have iGY : G.i = Y.i := by rw [hG]; rfl
  have iG : ∀ j : Nat, j ≠ 43 → G.i j = U.i j := fun j hj => by rw [iGY]; exact iY j hj
  have bG : G.b 9 = U.b 9 := by rw [hG]; exact bY
  have gG : goI G = goI s + 1 := by rw [← gY]; unfold goI; rw [iGY]
  have aGY : ∀ k : Nat, k ≠ 72 → G.a k = Y.a k := fun k hk => by rw [hG]; exact setA_nk hk
  have aG : ∀ k : Nat, k < 44 ∨ 51 < k → k ≠ 72 → G.a k = U.a k := fun k h1 h2 => (aGY k h2).trans (aY k h1)
  have G44 : G.a 44 γ0 = 1 := by rw [aGY 44 (by decide)]; exact Y44
  have G47 : G.a 47 γ0 = U.i 52 := by rw [aGY 47 (by decide)]; exact Y47
  have Ghd : hd G true γ0 = -1 := by
    have e : hd G true γ0 = hd Y true γ0 := by unfold hd gv; rw [aGY _ (by decide)]
    rw [e]; exact Yhd
  have G72 : G.a 72 t = U.i 43 := by rw [hG]; exact setA_at
  have kG : KP t V G := by rw [hG]; exact kY.loc t _ (by omega) (by omega) (Nat.le_refl _)
  have IG : INV U → 2 * (goI U + 1) ≤ fr U → INV G := fun h q => by rw [hG]; exact (IY h q).loc t _ (by omega) (by omega)
  have PG : PRL U → PRL G := fun h => by rw [hG]; exact (PY h).tbl (TBL.loc _ t _ (by omega) (by omega))
  rw [← hG]
  clear hG
  have i20 : ∀ j : Nat, j ≠ 20 → j ≠ 43 → G.i j = w0.i j := fun j h1 h2 => by rw [iG j h2, iU, iE j h1]
  have lG : LXI G := x1.2.2.2.1.of (i20 2 (by decide) (by decide)) (i20 10 (by decide) (by decide)) (i20 11 (by decide) (by decide)) (i20 12 (by decide) (by decide)) (i20 14 (by decide) (by decide)) (by rw [bG, bU, bE])
  have r75 : G.i 75 = 0 ∨ G.i 75 = 1 := by rw [i20 75 (by decide) (by decide), x1.2.2.1 75 (by omega) (by omega)]; exact v1.r
  have ksG : KP t s G := ksv.tr kG (Nat.le_refl _)
  have flt : ∀ S : RS, LX G S → ¬ S.i 15 = 0 → ok (f_X12_parse_10 N m3 (S.setA 65 t 2)) P := fun S h1 h2 => lp_f (u := S.setA 65 t 2) h2 (hF _ (FS'.loc (FS'.of ksG.1.1 h1 h2 r75) t 2 (by omega) (by omega))) (by omega)
  rcases x2 with x2 | ⟨x2, x3, x4, x5, x6⟩
  · obtain ⟨S, eS, o1, -, -⟩ := p_op hN1 lG 123 (by decide)
    rw [eS]
    exact flt S.2 o1 (fun q => x2 (by rw [← i20 15 (by decide) (by decide)]; exact o1.2.2.2.2.1 q))
  have mB : MM t s w0 := MM.clo hI mR a3 a4 a5 a7 a8 a9 hv x1 x2 x4 x5 x6
  have raw := mB.2.2.2.2.2.1
  have mU : MM t s U := tU (tE mB (by unfold RATE at v6 r6; have := a4.cd; omega))
  have fU : fr U = fr w0 := by unfold fr; rw [iU, iE 11 (by decide)]
  have iiG : INV G := IG mU.1 (by omega)
  have prG : PRL G := PG (hpl.kp mU.2.2.1 mU.2.2.2.1.go)
  obtain ⟨p, ep, hpp⟩ := OPO (t := t) hN1 iiG 123 (by decide)
  rw [ep]
  clear ep
  rcases hpp with ⟨p1, p2, p3⟩ | ⟨p1, p2, p3, q1, q2, q3, q4, q5, q6, q7, q8, q9, q10, q11⟩
  · exact flt p.2 p2 p1
  show ok (f_X12_parse_10 N m3 (p.2.setA 65 t 2)) P
  obtain ⟨O, hO⟩ : ∃ O, O = p.2.setA 65 t 2 := ⟨_, rfl⟩
  have iO : O.i = p.2.i := by rw [hO]; rfl
  have aO : ∀ k : Nat, k ≠ 65 → O.a k = G.a k := fun k hk => by rw [hO, setA_nk hk, q10]
  have O65 : O.a 65 t = 2 := by rw [hO]; exact setA_at
  have tbO : TBL G O := by rw [hO]; exact q4.tr (TBL.loc _ t _ (by omega) (by omega))
  have kO : KP t G O := by rw [hO]; exact q3.loc t _ (by omega) (by omega) (Nat.le_refl _)
  have iiO : INV O := by rw [hO]; exact q1.loc t _ (by omega) (by omega)
  rw [← hO]
  clear hO
  have fO : fr O = fr p.2 := by unfold fr; rw [iO]
  have tkO : tkI O = tkI p.2 := by unfold tkI; rw [iO]
  have fG : fr G = fr w0 := by unfold fr; rw [i20 11 (by decide) (by decide)]
  have tkG : tkI G = tkI w0 := by unfold tkI; rw [i20 17 (by decide) (by decide)]
  have kVO : KP t V O := kG.tr kO (Nat.le_refl _)
  have ek : ((cdI V).toNat : Int) = cdI V := Int.toNat_of_nonneg cv.1
  have cG : cdI G = cdI V + 1 := by
    have : cdI G = cdI E := by unfold cdI; rw [iG 20 (by decide), iU]
    omega
  have cO : cdI O = cdI V + 1 := tbO.cd.trans cG
  have m1 : (-1 : Int32).toInt = -1 := by decide
  have aGU : ∀ k : Nat, k < 44 ∨ 51 < k → k ≠ 65 → k ≠ 72 → O.a k = U.a k := fun k h1 h2 h3 => (aO k h2).trans (aG k h1 h3)
  have ea : ∀ k : Nat, k < 44 ∨ 51 < k → k ≠ 65 → k ≠ 72 → k ≠ 68 → k ≠ 70 → k ≠ 71 → O.a k = E.a k := fun k h1 h2 h3 h4 h5 h6 => (aGU k h1 h2 h3).trans (aU k h4 h5 h6)
  have O38 : O.i 38 = V.i 38 := by rw [iO, q11.2.2.1 38 (by omega) (by omega), i20 38 (by decide) (by decide)]; exact x1.i38
  have V38 : V.i 38 = s.i 38 := v5.trans ((a4.2.2 38 (by omega) (by omega) (by omega) (by omega)).trans r5)
  have d1 : V.i 52 = s.i 52 := v4.2.2.1.trans (a7.trans r4.2.2.1)
  have A52 : A.i 52 = s.i 52 := a7.trans r4.2.2.1
  have sV : SAME A V := v4
  have een : enI O = enI w0 := by
    have h1 : enI O = enI G := tbO.en
    have h2 : enI G = enI w0 := by unfold enI; rw [i20 24 (by decide) (by decide)]
    omega
  have ewV : enI w0 = enI V := x1.tbl.en
  have eA : enI A = enI R := a4.en
  have gi : GI t s V γ0 [] O := by
    refine ⟨⟨iiO, by unfold tpI; rw [iO]; exact q2.trans ((congrArg Int32.toInt (i20 63 (by decide) (by decide))).trans mB.2.1), kVO, prG.tbl tbO⟩, ⟨?_, by rw [tbO.go]; exact gG, ?_, ?_⟩, ⟨SNW.eq O38 kVO.2.2.2.2.2.1.2.1, ?_, ?_, by omega, ?_⟩, ⟨?_, ?_, Or.inl ⟨rfl, ?_⟩, fun _ => ?_, ?_, ?_⟩, ⟨by omega, ?_, ?_, fun j hj => absurd hj List.not_mem_nil⟩, ⟨?_, ?_, [], ?_, fun x hx => absurd hx List.not_mem_nil⟩, fun _ => TSX.nil _ _ _⟩
    · rw [iO, q5, i20 19 (by decide) (by decide), mB.2.2.2.1.1]
    · rw [iO, q7, i20 52 (by decide) (by decide)]; exact mB.2.2.2.1.2.2.1
    · rw [iO, q11.2.2.1 56 (by omega) (by omega), i20 56 (by decide) (by decide)]; exact mB.2.2.2.1.2.2.2
    · have h3 : trI O = trI w0 := by rw [tbO.tt]; unfold trI; rw [i20 29 (by decide) (by decide)]
      have h4 : caI O = caI w0 := by rw [tbO.ca]; unfold caI; rw [i20 33 (by decide) (by decide)]
      have h5 : slI O = slI w0 := by rw [tbO.sl]; unfold slI; rw [i20 42 (by decide) (by decide)]
      have h6 : peI O = peI w0 := by rw [tbO.pe]; unfold peI; rw [i20 59 (by decide) (by decide)]
      unfold RATE at raw ⊢
      rw [een, h3, h4, h5, h6]
      omega
    · unfold RATE at v6 r6
      omega
    · have := mB.2.2.2.2.2.2.2
      omega
    · rw [ea 64 (by omega) (by decide) (by decide) (by decide) (by decide) (by decide), aE 64 (by decide) (by decide) (by decide) (by decide) (by decide), x1.1, v12 64 (by omega) (by omega) (by omega), a10]; exact r11
    · rw [ea 66 (by omega) (by decide) (by decide) (by decide) (by decide) (by decide), E66]; exact ecw
    · rw [ea 67 (by omega) (by decide) (by decide) (by decide) (by decide) (by decide), E67, m1]; decide
    · rw [aGU 70 (by omega) (by decide) (by decide)]; exact U70
    · rw [aGU 71 (by omega) (by decide) (by decide), U71]; exact x1.i38.trans V38
    · rw [aO 72 (by decide), G72]; show goI U = _; omega
    · rw [ea 21 (by omega) (by decide) (by decide) (by decide) (by decide) (by decide), E21, if_pos rfl]
    · show gv O 22 _ < 0
      unfold gv
      rw [ea 22 (by omega) (by decide) (by decide) (by decide) (by decide) (by decide), E22, m1]; decide
    · rw [aO 44 (by decide)]; exact G44
    · unfold gv
      rw [aO 47 (by decide), G47, iU, iE 52 (by decide)]
      exact mB.2.2.2.1.de
    · rw [tbO.hd, Ghd]; show (-1 : Int) < 0; omega
  have g68 : G68 t [] O := Or.inl (by rw [aGU 68 (by omega) (by decide) (by decide)]; exact U68)
  obtain ⟨m4, rfl⟩ : ∃ m4, m3 = m4 + 1 := ⟨m3 - 1, by omega⟩
  have push4 : ((m4 + 1 : Nat) : Int) = (m4 : Int) + 1 := by omega
  rw [push4] at hm
  have fOf := iiO.1.f0
  exact GR2 (B0 := (n : Int) + 1 + 40 * fr s + 11) hN hl hI h9 hb hc hF ksA (a4.cd.trans r9) (by rw [a10]; exact r10) ((a4.2.2 38 (by omega) (by omega) (by omega) (by omega)).trans r5) A52 (by omega) v9 v3 v1 d1 v7 vgo V38 gn hC 1000 m4 [] O gi g68 O65 (by omega) (by omega) (by omega)
