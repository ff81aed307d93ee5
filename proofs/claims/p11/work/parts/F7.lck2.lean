/-! reading: lock: its frame -/
theorem FS'.i52 {s u : RS} (h : FS' s u) (v : Int32) : FS' s (u.setI 52 v) := ⟨h.1, ⟨fun j hj => (if_neg (by omega)).trans (h.2.1.1 j hj), h.2.1.2⟩, h.2.2⟩
theorem LK94f {N : Nat} (hN : 1000 ≤ N) {n : Nat} {s X : RS} {t : Nat} {P : RS → Prop} (h9 : t < 998) (n1 : 1 ≤ n) (hF : ∀ u, FS' s u → P u) (hl : LXI X) (h15 : ¬ X.i 15 = 0) (hk : K1 s X) (tp : tpI X = t) (h75 : X.i 75 = 0 ∨ X.i 75 = 1) : ok ((f_X12_lock_94 N X).bind fun p => f_X12_parse_10 N n p) P := by
  unfold f_X12_lock_94
  obtain ⟨w, ew, x1, x2, x3⟩ := p_sh hN hl 41 (by decide)
  rw [ew]
  have w15 : ¬ w.2.i 15 = 0 := fun z => h15 (x1.2.2.2.2.1 z)
  show ok (((f_X12_then N (w.2.setI 52 (w.2.i 52 + 1)) 1 3).bind fun p => some p).bind fun p => f_X12_parse_10 N n p) P
  rw [p_th 1 3 (u := w.2.setI 52 (w.2.i 52 + 1)) (x1.tp.trans tp) (by omega)]
  exact lp_f (u := TH (w.2.setI 52 (w.2.i 52 + 1)) t 1 3) w15 (hF _ (FS'.th ((FS'.of hk x1 w15 h75).i52 _))) n1
theorem run_lock {N b : Nat} (hN : 1000 ≤ N) (hbk : 1 ≤ b → RUNB N (b - 1)) : RUNU N b 13 (fun x => x = 422) := by
  intro n s u t P hI hp ht hu tu u15 hT hz h9 hb hc hn n1 hF hC
  have hf := hI.1.f0
  have cs := hI.cd
  have hpl : PRL s := hp.prl (by rw [hT]; decide)
  refine lp_13 tu (by omega) u15 hu.2.2.2.2.2.2.1 ?_
  unfold f_X12_lock
  rw [if_pos (tp_ib tu (by omega)), tp_nat tu, if_pos hu.2.2.2.2.2.2.2.1]
  obtain ⟨R, eR, hR, xR⟩ := STA hN hI ht hz hu
  have mR := hR.mm
  obtain ⟨r1, r2, r3, r4, r5, r6, r7, r8, r9, r10, r11, r12, r13, r14⟩ := hR
  have r13 := r13 (by rw [hT]; decide)
  rw [eR]
  obtain ⟨p, ep, hpp⟩ := OPO (t := t) hN r1 40 (by decide)
  show ok (((f_X12_open N R 40).bind fun p7 => (if (p7.2.i 10) = 3 then (f_X12_can N p7.2 1).bind fun p10 => (if p10.1 = 0 then f_X12_lock_94 N p10.2 else f_X12_lock_50 N p10.2) else (if (p7.2.i 10) = 434 then (f_X12_can N p7.2 1).bind fun p30 => (if p30.1 = 0 then f_X12_lock_94 N p30.2 else f_X12_lock_50 N p30.2) else (f_X12_can N p7.2 0).bind fun p27 => (if p27.1 = 0 then f_X12_lock_94 N p27.2 else f_X12_lock_50 N p27.2)))).bind fun p => f_X12_parse_10 N n p) P
  rw [ep]
  obtain ⟨A, hA⟩ : ∃ A, A = p.2 := ⟨_, rfl⟩
  show ok ((if (p.2.i 10) = 3 then (f_X12_can N p.2 1).bind fun p10 => (if p10.1 = 0 then f_X12_lock_94 N p10.2 else f_X12_lock_50 N p10.2) else (if (p.2.i 10) = 434 then (f_X12_can N p.2 1).bind fun p30 => (if p30.1 = 0 then f_X12_lock_94 N p30.2 else f_X12_lock_50 N p30.2) else (f_X12_can N p.2 0).bind fun p27 => (if p27.1 = 0 then f_X12_lock_94 N p27.2 else f_X12_lock_50 N p27.2)) : Option RS).bind fun p => f_X12_parse_10 N n p) P
  rw [← hA] at hpp ⊢
  clear hA
  have xA : LX R A := by rcases hpp with ⟨-, q, -⟩ | q; exact q; exact q.2.2.2.2.2.2.2.2.2.2.2.2.2
  have bad : ∀ X : RS, LX A X → ¬ X.i 15 = 0 → ok ((f_X12_lock_94 N X).bind fun p => f_X12_parse_10 N n p) P := fun X h1 h2 => LK94f hN h9 n1 hF h1.2.2.2.1 h2 ((r3.lx xA).lx h1).1.1 (h1.tp.trans (xA.tp.trans r2)) (by rw [h1.2.2.1 75 (by omega) (by omega), xA.2.2.1 75 (by omega) (by omega)]; exact r1.r)
  have cn : ∀ x : Int32, (A.i 15 = 0 → ¬ x = 0 → ok ((f_X12_lock_50 N A).bind fun p => f_X12_parse_10 N n p) P) → ok (((f_X12_can N A x).bind fun p10 => (if p10.1 = 0 then f_X12_lock_94 N p10.2 else f_X12_lock_50 N p10.2) : Option RS).bind fun p => f_X12_parse_10 N n p) P := fun x hgo => by
    obtain ⟨c, ec, c1, c2, c3⟩ := p_cn (N := N) xA.2.2.2.1 x
    rw [ec]
    show ok ((if c.1 = 0 then f_X12_lock_94 N c.2 else f_X12_lock_50 N c.2 : Option RS).bind fun p => f_X12_parse_10 N n p) P
    rcases c3 with ⟨c3, c4⟩ | ⟨c3, c4, c5, c6⟩
    · rw [if_pos c3]; exact bad _ c1 c4
    · rw [if_neg (by rw [c3]; decide), c4]; exact hgo c5 c6
  have good : A.i 15 = 0 → (A.i 10 = 3 ∨ A.i 10 = 434) → ok ((f_X12_lock_50 N A).bind fun p => f_X12_parse_10 N n p) P := by
    intro a15 atok
    rcases hpp with ⟨q, -, -⟩ | ⟨-, -, -, q1, q2, q3, q4, q5, q6, q7, q8, q9, q10, -⟩
    · exact absurd a15 q
    have cA := q1.cd
    have ksA : KP t s A := r3.tr q3 (Nat.le_refl _)
    have ecA : cdI A = cdI s + 1 := q4.cd.trans r9
    have main : ∀ o9 x9 : Int32, (o9 = 26 ∧ 0 ≤ x9.toInt ∧ x9.toInt < 8 ∨ o9 = 20 ∧ x9 = 1) → ok (((f_X12_emit N A o9 x9).bind fun p24 => f_X12_lock_90 N p24.2).bind fun p => f_X12_parse_10 N n p) P := by
      intro o9 x9 ho
      rw [p_em o9 x9 cA.1 cA.2.2]
      obtain ⟨E, hE⟩ : ∃ E, E = EM A o9 x9 := ⟨_, rfl⟩
      have lE : LXI E := by rw [hE]; exact LXI.em q1.1
      have kE : KP t s E := by rw [hE]; exact ksA.em cs.1 cA.2.2
      have tE : TAB E := by rw [hE]; exact q1.2.2.2.1.em cA.1 cA.2.2
      have iE : ∀ j : Nat, j ≠ 20 → E.i j = A.i j := fun j hj => by rw [hE]; exact EM.i hj
      have aE : ∀ k : Nat, k ≠ 21 → k ≠ 22 → k ≠ 23 → E.a k = A.a k := fun k h1 h2 h3 => by rw [hE]; exact EM.a h1 h2 h3
      have cE : cdI E = cdI s + 2 := by rw [hE, EM.cd cA.1 cA.2.2]; omega
      have E21 : ∀ j : Nat, E.a 21 j = if j = (cdI A).toNat then o9 else A.a 21 j := fun j => by rw [hE]; exact EM.a21 j
      have E22 : E.a 22 (cdI A).toNat = x9 := by rw [hE, EM.a22, if_pos rfl]
      show ok ((f_X12_lock_90 N (EM A o9 x9)).bind fun p => f_X12_parse_10 N n p) P
      rw [← hE]
      clear hE
      unfold f_X12_lock_90
      obtain ⟨B, eB, y1, y2, y3, y4⟩ := p_nx hN lE
      rw [eB]
      obtain ⟨b15, bc⟩ := y4 ((iE 15 (by decide)).trans a15)
      obtain ⟨c1, c2, c3⟩ := bc (by rw [iE 10 (by decide)]; rcases atok with h | h <;> (rw [h]; decide))
      have fE : fr E = fr A := by unfold fr; rw [iE 11 (by decide)]
      have tkE : tkI E = tkI A := by unfold tkI; rw [iE 17 (by decide)]
      have ta := q1.tk
      have tb := tk_add c1 ⟨by omega, by have := q1.1.f0; omega⟩
      show ok ((f_X12_lock_94 N B).bind fun p => f_X12_parse_10 N n p) P
      unfold f_X12_lock_94
      obtain ⟨w0, ew, z1, z2, z3⟩ := p_sh hN y1.2.2.2.1 41 (by decide)
      rw [ew]
      obtain ⟨w, hw⟩ : ∃ w, w = w0.2 := ⟨_, rfl⟩
      show ok (((f_X12_then N (w0.2.setI 52 (w0.2.i 52 + 1)) 1 3).bind fun p => some p).bind fun p => f_X12_parse_10 N n p) P
      rw [← hw] at z1 z2 z3 ⊢
      clear hw ew
      have kw : KP t s w := (kE.lx y1).lx z1
      have iwE : ∀ j : Nat, (j < 10 ∨ 18 ≤ j) → j ≠ 19 → w.i j = E.i j := fun j h1 h2 => (z1.2.2.1 j h1 h2).trans (y1.2.2.1 j h1 h2)
      have tpw : tpI w = t := by
        unfold tpI
        rw [iwE 63 (by omega) (by decide), iE 63 (by decide), xA.i63]
        exact r2
      obtain ⟨U, hU⟩ : ∃ U, U = w.setI 52 (w.i 52 + 1) := ⟨_, rfl⟩
      have iU : ∀ j : Nat, j ≠ 52 → U.i j = w.i j := fun j hj => by rw [hU]; exact if_neg hj
      have U52 : U.i 52 = w.i 52 + 1 := by rw [hU]; rfl
      have aU : U.a = w.a := by rw [hU]; rfl
      have kU : KP t s U := by rw [hU]; exact kw.i52 _
      have tbU : TBL w U := by rw [hU]; exact TBL.i52 w _
      have lU : LXI U := by rw [hU]; exact z1.2.2.2.1
      have fU : fr U = fr w := by unfold fr; rw [iU 11 (by decide)]
      have tpU : tpI U = t := by unfold tpI at *; rw [iU 63 (by decide)]; exact tpw
      rw [← hU]
      rw [p_th 1 3 tpU (by omega)]
      show ok (f_X12_parse_10 N n (TH U t 1 3)) P
      rcases z2 with ⟨-, z2⟩ | ⟨-, z2⟩
      · refine lp_f (u := TH U t 1 3) (show ¬ U.i 15 = 0 by rw [iU 15 (by decide)]; exact z2) (hF _ (FS'.th ?_)) n1
        rw [hU]
        exact (FS'.of (kE.lx y1).1.1 z1 z2 (by rw [y1.2.2.1 75 (by omega) (by omega), iE 75 (by decide)]; exact q1.r)).i52 _
      clear hU
      obtain ⟨s1, ⟨s2, s3, s4⟩, s5⟩ := z3 z2
      have tkw := tk_add s2 ⟨by omega, by have := y1.2.2.2.1.f0; omega⟩
      have ssw : SAME s w := by
        refine ⟨?_, ?_, ?_, ?_⟩
        · rw [s5, y2, iE 19 (by decide), q5, Int32.add_sub_cancel]; exact r4.1
        · rw [iwE 43 (by omega) (by decide), iE 43 (by decide), xA.2.2.1 43 (by omega) (by omega)]; exact r4.2.1
        · rw [iwE 52 (by omega) (by decide), iE 52 (by decide), xA.2.2.1 52 (by omega) (by omega)]; exact r4.2.2.1
        · rw [iwE 56 (by omega) (by decide), iE 56 (by decide), xA.2.2.1 56 (by omega) (by omega)]; exact r4.2.2.2
      have e38w : w.i 38 = s.i 38 := by rw [iwE 38 (by omega) (by decide), iE 38 (by decide), xA.i38]; exact r5
      have ecw : cdI w = cdI s + 2 := by rw [z1.tbl.cd, y1.tbl.cd]; exact cE
      have rtw : RATE s w := by
        have t1 := z1.tbl
        have t2 := y1.tbl
        have f2 : enI E = enI A := by unfold enI; rw [iE 24 (by decide)]
        have f3 : trI E = trI A := by unfold trI; rw [iE 29 (by decide)]
        have f4 : caI E = caI A := by unfold caI; rw [iE 33 (by decide)]
        have f5 : slI E = slI A := by unfold slI; rw [iE 42 (by decide)]
        have f6 : peI E = peI A := by unfold peI; rw [iE 59 (by decide)]
        have g2 := q4.en
        have g3 := q4.tt
        have g4 := q4.ca
        have g5 := q4.sl
        have g6 := q4.pe
        unfold RATE at r6 ⊢
        rw [t1.en, t1.tt, t1.ca, t1.sl, t1.pe, t2.en, t2.tt, t2.ca, t2.sl, t2.pe, ecw]
        omega
      have iw : INV w := hI.mkS kw z1.2.2.2.1 z2 ((tE.lx y1).lx z1) ssw (SNW.eq e38w kw.2.2.2.2.2.1.2.1) rtw (by omega) (by omega)
      have dw : deI w = deI s := ssw.de
      have dU : deI U = deI s + 1 := by
        have e1 : (1 : Int32).toInt = 1 := by decide
        have hh : 0 ≤ deI s ∧ deI s ≤ 300 := by have := hI.2.2.2.2.2.2.2.2.2.2.2.2.1; have := hI.op; omega
        have dw' : (w.i 52).toInt = deI s := dw
        unfold deI
        rw [U52, toInt_add] <;> rw [e1] <;> (unfold deI at *; omega)
      have ns := hI.2.2.2.2
      have iUV : INV U := by
        refine ⟨lU, hI.2.1.kp kU, (iU 15 (by decide)).trans z2, iw.2.2.2.1.tbl tbU (fun γ hγ => by have := (iw.2.2.2.1.2.2.2.2.2.2.1 γ hγ).2; omega) (by rw [iU 75 (by decide)]; exact iw.r), ?_⟩
        have nw := iw.2.2.2.2
        have ow : op w = op s := ssw.eOp
        have e12 : op U = op w := by unfold op; rw [iU 19 (by decide)]
        have e13 : tkI U = tkI w := by unfold tkI; rw [iU 17 (by decide)]
        unfold NUM at nw ns ⊢
        rw [tbU.cd, tbU.en, tbU.tt, tbU.ca, tbU.se, tbU.sl, tbU.go, tbU.wa, tbU.pe, fU, e12, e13, dU]
        omega
      have gU : goI U = goI s := by rw [tbU.go]; exact ssw.go
      have oU : op U = op s := by
        have e12 : op U = op w := by unfold op; rw [iU 19 (by decide)]
        have := ssw.eOp
        omega
      have fUf := iUV.1.f0
      refine CALLB (hbk (by omega)) iUV (hpl.kp kU gU) tpU (by omega) (by omega) (by omega) (by omega) (fun u hu => hF u (FS'.kp kU hu)) (fun m v hv hfv hm => ?_)
      obtain ⟨v1, v2, v3, v4, v5, v6, v7, v8, v9, v10, v11⟩ := hv
      have fv := v1.1.f0
      have cv := v1.cd
      obtain ⟨m3, rfl⟩ : ∃ m3, m = m3 + 1 := ⟨m - 1, by omega⟩
      have push3 : ((m3 + 1 : Nat) : Int) = (m3 : Int) + 1 := by omega
      rw [push3] at hm
      refine lp_13 v2 (by omega) v1.2.2.1 ?_ ?_
      · rw [v11 64 (by omega) (by omega) (by omega), aU, z1.1, y1.1, aE 64 (by decide) (by decide) (by decide), q10]; exact r11
      unfold f_X12_lock
      rw [if_pos (tp_ib v2 (by omega)), tp_nat v2, if_neg (by rw [v10]; decide), p_em 27 0 cv.1 cv.2.2]
      obtain ⟨G, hG⟩ : ∃ G, G = EM v 27 0 := ⟨_, rfl⟩
      have kG : KP t v G := by rw [hG]; exact (KP.rf t v).em cv.1 cv.2.2
      have tG : TAB G := by rw [hG]; exact v1.2.2.2.1.em cv.1 cv.2.2
      have lG : LXI G := by rw [hG]; exact LXI.em v1.1
      have iG : ∀ j : Nat, j ≠ 20 → G.i j = v.i j := fun j hj => by rw [hG]; exact EM.i hj
      have cG : cdI G = cdI v + 1 := by rw [hG]; exact EM.cd cv.1 cv.2.2
      have G21 : G.a 21 (cdI v).toNat = 27 := by rw [hG, EM.a21, if_pos rfl]
      show ok (f_X12_parse_10 N m3 (((EM v 27 0).setI 52 ((EM v 27 0).i 52 - 1)).setI 63 ((EM v 27 0).i 63 - 1))) P
      rw [← hG]
      clear hG
      obtain ⟨W, hW⟩ : ∃ W, W = (G.setI 52 (G.i 52 - 1)).setI 63 (G.i 63 - 1) := ⟨_, rfl⟩
      have kGW : KP t G W := by rw [hW]; exact ((KP.rf t G).i52 _).i63 _
      have tbW : TBL G W := by rw [hW]; exact (TBL.i52 G _).tr (TBL.i63 _ _)
      have iW : ∀ j : Nat, j ≠ 52 → j ≠ 63 → W.i j = G.i j := fun j h1 h2 => by rw [hW]; exact (if_neg h2).trans (if_neg h1)
      have W52 : W.i 52 = s.i 52 := by
        have e : W.i 52 = G.i 52 - 1 := by rw [hW]; rfl
        rw [e, iG 52 (by decide), v4.2.2.1, U52, Int32.add_sub_cancel]
        exact ssw.2.2.1
      have tpW : tpI W = (t : Int) - 1 := by
        have e : W.i 63 = v.i 63 - 1 := by rw [hW]; show G.i 63 - 1 = _; rw [iG 63 (by decide)]
        unfold tpI
        rw [e]
        exact tp_sub v2 (by omega)
      have lW : LXI W := by rw [hW]; exact lG
      rw [← hW]
      clear hW
      have kvW : KP t v W := kG.tr kGW (Nat.le_refl _)
      have ksv : KP t s v := kU.tr v3 (Nat.le_refl _)
      have ksW : KP t s W := ksv.tr kvW (Nat.le_refl _)
      have iWv : ∀ j : Nat, j ≠ 20 → j ≠ 52 → j ≠ 63 → W.i j = v.i j := fun j h1 h2 h3 => (iW j h2 h3).trans (iG j h1)
      have smW : SAME s W := by
        refine ⟨?_, ?_, W52, ?_⟩
        · rw [iWv 19 (by decide) (by decide) (by decide), v4.1, iU 19 (by decide)]; exact ssw.1
        · rw [iWv 43 (by decide) (by decide) (by decide), v4.2.1, iU 43 (by decide)]; exact ssw.2.1
        · rw [iWv 56 (by decide) (by decide) (by decide), v4.2.2.2, iU 56 (by decide)]; exact ssw.2.2.2
      have cW : cdI W = cdI v + 1 := by rw [tbW.cd]; exact cG
      have cU : cdI U = cdI s + 2 := by rw [tbU.cd]; exact ecw
      have fW : fr W = fr v := by unfold fr; rw [iWv 11 (by decide) (by decide) (by decide)]
      have tkW : tkI W = tkI v := by unfold tkI; rw [iWv 17 (by decide) (by decide) (by decide)]
      have rU : RATE s U := rtw.tr (tbU.rate (by omega) (by have : tkI U = tkI w := by { unfold tkI; rw [iU 17 (by decide)] }; omega))
      have tkU : tkI U = tkI w := by unfold tkI; rw [iU 17 (by decide)]
      have rW : RATE s W := by
        have f2 : enI W = enI v := by unfold enI; rw [iWv 24 (by decide) (by decide) (by decide)]
        have f3 : trI W = trI v := by unfold trI; rw [iWv 29 (by decide) (by decide) (by decide)]
        have f4 : caI W = caI v := by unfold caI; rw [iWv 33 (by decide) (by decide) (by decide)]
        have f5 : slI W = slI v := by unfold slI; rw [iWv 42 (by decide) (by decide) (by decide)]
        have f6 : peI W = peI v := by unfold peI; rw [iWv 59 (by decide) (by decide) (by decide)]
        unfold RATE at rU v5 ⊢
        rw [cW, f2, f3, f4, f5, f6, fW, tkW]
        omega
      have snU : SNW s U := SNW.eq ((iU 38 (by decide)).trans e38w) kU.2.2.2.2.2.1.2.1
      have snv : SNW s v := snU.tr v6 kU v3
      have seW : seI W = seI v := by unfold seI; rw [iWv 38 (by decide) (by decide) (by decide)]
      have slW : slI W = slI v := by unfold slI; rw [iWv 42 (by decide) (by decide) (by decide)]
      have snW : SNW s W := by
        refine ⟨by have := snv.1; omega, fun y h1 h2 => ?_⟩
        have e : gv W 40 y = gv v 40 y := by
          have ks := kvW.2.2.2.2.2.1
          unfold gv; rw [ks.2.2.1 y (by omega)]
        rw [e]
        exact snv.2 y h1 (by omega)
      have kg := ksv.2.2.2.2.2.2.1
      have gv' : goI v = goI s := by have := v4.go; omega
      have tW : TAB W := tG.tbl tbW (fun γ hγ => by
        have hγ' : (γ : Int) < goI s := by have : goI G = goI v := by { unfold goI; rw [iG 43 (by decide)] }; omega
        have e : gv G 47 γ = gv s 47 γ := by
          have kgG := (ksv.tr kG (Nat.le_refl _)).2.2.2.2.2.2.1
          unfold gv; rw [kgG.2.2.1 γ hγ']
        have := (hI.2.2.2.1.2.2.2.2.2.2.1 γ hγ').2
        have : deI W = deI s := smW.de
        omega) (by rw [iWv 75 (by decide) (by decide) (by decide)]; exact v1.r)
      have i15W : W.i 15 = 0 := (iWv 15 (by decide) (by decide) (by decide)).trans v1.2.2.1
      refine hC m3 W ⟨hI.mkS ksW lW i15W tW smW snW rW (by omega) (by omega), tpW, ksW, smW, rW, snW, by omega, by omega, fun z => ?_⟩ (by omega) (by omega)
      have z1' : ¬ 0 ≤ v.i 18 := fun q => z (by rw [iWv 18 (by decide) (by decide) (by decide)]; exact q)
      have U21 : ∀ j : Nat, U.a 21 j = E.a 21 j := fun j => by rw [aU, z1.1, y1.1]
      have ekA : (cdI s + 1).toNat = (cdI A).toNat := by rw [ecA]
      have Us : U.a 21 (cdI s).toNat = 1 := by rw [U21, E21, if_neg (by omega), q10]; exact r10
      have U1 : U.a 21 (cdI s + 1).toNat = o9 := by rw [U21, E21, if_pos ekA]
      have U2 : U.a 22 (cdI s + 1).toNat = x9 := by rw [aU, z1.1, y1.1, ekA]; exact E22
      have le3 := v3.2.1.1
      have W21 : W.a 21 (cdI v).toNat = 27 := by rw [tbW.1 21 (by omega)]; exact G21
      rcases ho with ⟨rfl, h1, h2⟩ | ⟨rfl, rfl⟩
      · exact TS.lock hI kU cU Us U1 U2 ⟨h1, h2⟩ ((iU 38 (by decide)).trans e38w) dU gU (by omega) (by have := hI.2.2.2.2.2.2.2.2.2.2.2.2.1; have := hI.op; omega) (v9 z1') v3 v1 v4 (by omega) kvW cW (by have := smW.go; omega) (by unfold waI; rw [iWv 56 (by decide) (by decide) (by decide)]) W21 (iWv 75 (by decide) (by decide) (by decide))
      · refine TS.raise hI (by omega) ?_ ?_ ?_ ?_
        · rw [kvW.2.1.2.1 _ (by omega), v3.2.1.2.1 _ (by omega)]; exact Us
        · rw [kvW.2.1.2.1 _ (by omega), v3.2.1.2.1 _ (by omega)]; exact U1
        · rw [kvW.2.1.2.2.1 _ (by omega), v3.2.1.2.2.1 _ (by omega)]; exact U2
        · rw [ksW.1.1.1 3 (by omega)]
          have := le_int hI.2.1.2.1.1
          have e4 : (4 : Int32).toInt = 4 := by decide
          omega
    unfold f_X12_lock_50
    by_cases c : A.i 10 = 434
    · rw [if_pos c]
      exact main 20 1 (Or.inr ⟨rfl, rfl⟩)
    · rw [if_neg c]
      have c3 : A.i 10 = 3 := by
        rcases atok with h | h
        · exact h
        · exact absurd h c
      obtain ⟨h1, h2⟩ := q1.1.2.2.2.2.2.1 (Or.inl c3)
      have h1 := le_int h1
      have h2 := le_int h2
      rw [z_t0] at h1
      have e7 : (7 : Int32).toInt = 7 := by decide
      exact main 26 (A.i 14) (Or.inl ⟨rfl, by omega, by omega⟩)
  by_cases c3 : A.i 10 = 3
  · rw [if_pos c3]; exact cn 1 (fun h _ => good h (Or.inl c3))
  rw [if_neg c3]
  by_cases c4 : A.i 10 = 434
  · rw [if_pos c4]; exact cn 1 (fun h _ => good h (Or.inr c4))
  rw [if_neg c4]
  exact cn 0 (fun _ h => absurd rfl h)
