/-! reading: for: the head's end, the body -/
/-- inside a head's signs: one sign more is begun -/
def MF (t : Nat) (s u : RS) : Prop := INV u ∧ tpI u = t ∧ KP t s u ∧ (u.i 19 = s.i 19 + 1 ∧ u.i 43 = s.i 43 ∧ u.i 52 = s.i 52 ∧ u.i 56 = s.i 56) ∧ SNW s u ∧ RATE s u ∧ fr s + 1 ≤ fr u ∧ tkI s + 1 ≤ tkI u ∧ op u = op s + 1 ∧ bel 46 (goI s) s u
theorem FO7 {N b : Nat} (hN : 4000 ≤ N) (hs : 1 ≤ b → RUNS N (b - 1)) {m : Nat} {s J A v1 U0 c : RS} {t : Nat} {P : RS → Prop} {z : Int32} (hI : INV s) (hp : PRS s) (h9 : t < 998) (hb : 2 * (t : Int) ≤ fr s + 12 * op s + 2) (hcb : 900 - fr s ≤ b) (hF : ∀ u, FS' s u → P u)
  (kJ : KP t s J) (sJ : SAME s J) (nJ : SNW s J) (tJ : TAB J) (J75 : J.i 75 = 1) (fJ : fr s ≤ fr J) (tsJ : ¬ 0 ≤ J.i 18 → TS s J) (J0 : 0 ≤ cdI J)
  (kA : KP t J A) (cA : cdI A = cdI J) (A38 : A.i 38 = J.i 38) (A52 : A.i 52 = J.i 52) (fA : fr J ≤ fr A) (te : ¬ 0 ≤ v1.i 18 → z = 0 → TE A v1) (hz : z = 0 ∨ z = 1 ∧ cdI v1 = cdI A + 1 ∧ v1.a 21 (cdI A).toNat = 2 ∧ v1.a 22 (cdI A).toNat = 1) (k1 : KP t A v1) (i1 : INV v1) (d1 : v1.i 52 = J.i 52) (f1 : fr A ≤ fr v1) (f1' : fr J + 2 ≤ fr v1) (le1 : cdI A ≤ cdI v1) (gv1 : goI v1 = goI s)
  (kU : KP t v1 U0) (cU : cdI U0 = cdI v1 + 2) (U38 : U0.i 38 = J.i 38) (U52 : U0.i 52 = J.i 52) (fU : fr v1 ≤ fr U0) (U21q : U0.a 21 (cdI v1).toNat = 13) (U21r : U0.a 21 (cdI v1 + 1).toNat = 15) (tu : ¬ 0 ≤ c.i 18 → TUP U0 c) (ku : KP t U0 c) (fc : fr U0 ≤ fr c) (mc : MF t s c) (c38 : c.i 38 = J.i 38) (c64 : c.a 64 t = 12) (c65 : c.a 65 t = 7) (c66 : (c.a 66 t).toInt = cdI A) (c67 : (c.a 67 t).toInt = cdI v1) (c68 : (c.a 68 t).toInt = cdI v1 + 1) (c70 : (c.a 70 t).toInt = cdI U0) (c71 : c.a 71 t = s.i 38) (c72 : c.a 72 t = z) (hn : 36000 + 1 ≤ (m : Int) + 40 * fr c) (hC : ∀ (m' : Nat) (u : RS), PS t s u → fr c ≤ fr u → (m : Int) + 40 * fr c ≤ m' + 40 * fr u → ok (f_X12_parse_10 N m' u) P) : ok (f_X12_parse_10 N (m + 1) c) P := by
  have hN1 : 1000 ≤ N := by omega
  obtain ⟨a1, a2, a3, a4, a5, a6, a7, a8, a9, a10⟩ := mc
  have fcf := a1.1.f0
  have hf := hI.1.f0
  have cc := a1.cd
  have cv := i1.cd
  have cs := hI.cd
  have leU := ku.2.1.1
  have gos := hI.2.2.2.2.2.2.2.2.2.2.2.1
  have des := hI.2.2.2.2.2.2.2.2.2.2.2.2.1
  have hop := hI.op
  have kvc : KP t v1 c := kU.tr ku (Nat.le_refl _)
  have ekr : ((cdI v1 + 1).toNat : Int) = cdI v1 + 1 := Int.toNat_of_nonneg (by omega)
  refine lp_12 a2 (by omega) a1.2.2.1 c64 ?_
  unfold f_X12_fors
  rw [if_pos (tp_ib a2 (by omega)), tp_nat a2, if_neg (by rw [c65]; decide), if_neg (by rw [c65]; decide), if_neg (by rw [c65]; decide), if_neg (by rw [c65]; decide), if_neg (by rw [c65]; decide), if_neg (by rw [c65]; decide), if_neg (by rw [c65]; decide), if_pos c65, p_em 15 (c.a 66 t) cc.1 cc.2.2]
  obtain ⟨E, hE⟩ : ∃ E, E = EM c 15 (c.a 66 t) := ⟨_, rfl⟩
  have lE : LXI E := by rw [hE]; exact LXI.em a1.1
  have iE : ∀ j : Nat, j ≠ 20 → E.i j = c.i j := fun j hj => by rw [hE]; exact EM.i hj
  have cE : cdI E = cdI c + 1 := by rw [hE]; exact EM.cd cc.1 cc.2.2
  have kE : KP t c E := by rw [hE]; exact (KP.rf t c).em cc.1 cc.2.2
  have tE : TAB E := by rw [hE]; exact a1.2.2.2.1.em cc.1 cc.2.2
  have aE : ∀ k : Nat, k ≠ 21 → k ≠ 22 → k ≠ 23 → E.a k = c.a k := fun k h1 h2 h3 => by rw [hE, EM.a h1 h2 h3]
  have E21 : ∀ j : Nat, E.a 21 j = if j = (cdI c).toNat then 15 else c.a 21 j := fun j => by rw [hE]; exact EM.a21 j
  have E22 : E.a 22 (cdI c).toNat = c.a 66 t := by rw [hE, EM.a22, if_pos rfl]
  show ok (((f_X12_shut N (EM c 15 (c.a 66 t)) 41).bind fun p44 => if ib (p44.2.a 68 t) 3000 then (f_X12_emit N (RS.setA p44.2 22 (((p44.2.a 68 t) : Int32).toNatClampNeg) (p44.2.i 20)) 1 0).bind fun p47 => (f_X12_loopGoal N p47.2).bind fun p49 => (f_X12_body N (RS.setA p49.2 73 t p49.1) 8).bind fun p51 => some p51 else none).bind fun p => f_X12_parse_10 N m p) P
  rw [← hE]
  clear hE
  obtain ⟨D0, eD, x1, x2, x3⟩ := p_sh hN1 lE 41 (by decide)
  rw [eD]
  obtain ⟨D, hD⟩ : ∃ D, D = D0.2 := ⟨_, rfl⟩
  show ok ((if ib (D0.2.a 68 t) 3000 then (f_X12_emit N (RS.setA D0.2 22 (((D0.2.a 68 t) : Int32).toNatClampNeg) (D0.2.i 20)) 1 0).bind fun p47 => (f_X12_loopGoal N p47.2).bind fun p49 => (f_X12_body N (RS.setA p49.2 73 t p49.1) 8).bind fun p51 => some p51 else none : Option RS).bind fun p => f_X12_parse_10 N m p) P
  rw [← hD] at x1 x2 x3 ⊢
  clear hD eD
  have aD : D.a = E.a := x1.1
  have d68 : D.a 68 t = c.a 68 t := by rw [aD, aE 68 (by decide) (by decide) (by decide)]
  have k68 : (D.a 68 t).toInt = ((cdI v1 + 1).toNat : Int) := by rw [d68, c68, ekr]
  have n68 := k_nat k68
  rw [if_pos (show ib (D.a 68 t) 3000 from ⟨by omega, by omega⟩), n68]
  have cD : cdI D = cdI c + 1 := x1.tbl.cd.trans cE
  have c21r : c.a 21 (cdI v1 + 1).toNat = 15 := by rw [ku.2.1.2.1 _ (by omega)]; exact U21r
  have c21q : c.a 21 (cdI v1).toNat = 13 := by rw [ku.2.1.2.1 _ (by omega)]; exact U21q
  have noD : ¬ D.a 21 (cdI v1 + 1).toNat = 36 := by rw [aD, E21, if_neg (by omega), c21r]; decide
  have tD : TAB D := tE.lx x1
  obtain ⟨H, hH⟩ : ∃ H, H = D.setA 22 (cdI v1 + 1).toNat (D.i 20) := ⟨_, rfl⟩
  have lH : LXI H := by rw [hH]; exact LXI.sA x1.2.2.2.1 _ _ _
  have iH : H.i = D.i := by rw [hH]; rfl
  have tH : TAB H := by rw [hH]; exact tD.hole noD
  have aH : ∀ k : Nat, k ≠ 22 → H.a k = D.a k := fun k hk => by rw [hH]; exact setA_nk hk
  have H22 : ∀ j : Nat, j ≠ (cdI v1 + 1).toNat → H.a 22 j = D.a 22 j := fun j hj => by rw [hH]; exact setA_ne hj
  have H22r : H.a 22 (cdI v1 + 1).toNat = D.i 20 := by rw [hH]; exact setA_at
  have kvH : KP t v1 H := by rw [hH]; exact ((kvc.tr kE (Nat.le_refl _)).lx x1).hole (by omega) noD
  have ksH : KP t s H := by rw [hH]; exact ((a3.tr kE (Nat.le_refl _)).lx x1).hole (by have := (kJ.tr (kA.tr k1 (Nat.le_refl _)) (Nat.le_refl _)).2.1.1; omega) noD
  have LH : LAT noZ U0 c H := by rw [hH]; exact (((LAT.rf noZ U0 c).kp kE a1.tn (by unfold goI; rw [iE 43 (by decide)]; exact Int.le_refl _)).kp ((KP.rf t E).lx x1) tE.1.1 (by unfold goI; rw [x1.2.2.1 43 (by omega) (by omega)]; exact Int.le_refl _)).hole noD (Or.inl (by omega))
  rw [← hH]
  clear hH
  have cH : cdI H = cdI c + 1 := by have : cdI H = cdI D := by { unfold cdI; rw [iH] }; omega
  rw [p_em 1 0 (by omega) (by omega)]
  obtain ⟨U, hU⟩ : ∃ U, U = EM H 1 0 := ⟨_, rfl⟩
  have lU : LXI U := by rw [hU]; exact LXI.em lH
  have iU : ∀ j : Nat, j ≠ 20 → U.i j = D.i j := fun j hj => by rw [hU, EM.i hj, iH]
  have cUU : cdI U = cdI c + 2 := by rw [hU, EM.cd (by omega) (by omega)]; omega
  have kvU : KP t v1 U := by rw [hU]; exact kvH.em cv.1 (by omega)
  have ksU : KP t s U := by rw [hU]; exact ksH.em cs.1 (by omega)
  have tU : TAB U := by rw [hU]; exact tH.em (by omega) (by omega)
  have aU : ∀ k : Nat, k ≠ 21 → k ≠ 22 → k ≠ 23 → U.a k = c.a k := fun k h1 h2 h3 => by rw [hU, EM.a h1 h2 h3, aH k h2, aD, aE k h1 h2 h3]
  have UU21 : ∀ j : Nat, U.a 21 j = if j = (cdI H).toNat then 1 else H.a 21 j := fun j => by rw [hU]; exact EM.a21 j
  have UU22 : ∀ j : Nat, U.a 22 j = if j = (cdI H).toNat then 0 else H.a 22 j := fun j => by rw [hU]; exact EM.a22 j
  have kHU : KP t H U := by rw [hU]; exact (KP.rf t H).em (by omega) (by omega)
  show ok (((f_X12_loopGoal N (EM H 1 0)).bind fun p49 => (f_X12_body N (RS.setA p49.2 73 t p49.1) 8).bind fun p51 => some p51).bind fun p => f_X12_parse_10 N m p) P
  rw [← hU]
  clear hU
  have iUc : ∀ j : Nat, (j < 10 ∨ 18 ≤ j) → j ≠ 19 → j ≠ 20 → U.i j = c.i j := fun j h1 h2 h3 => by rw [iU j h3, x1.2.2.1 j h1 h2, iE j h3]
  have LU : LAT noZ U0 c U := LH.kp kHU tH.1.1 (by unfold goI; rw [iU 43 (by decide), iH]; exact Int.le_refl _)
  have gU : goI U = goI s := by unfold goI; rw [iUc 43 (by omega) (by decide) (by decide), a4.2.1]
  have dU : deI U = deI s := by unfold deI; rw [iUc 52 (by omega) (by decide) (by decide), a4.2.2.1]
  have gos4 : goI U < 460 := by omega
  obtain ⟨V, eV, hV⟩ := p_lg (N := N) hN1 (u := U) (by omega) gos4
  rw [eV]
  show ok (((f_X12_body N (RS.setA V 73 t (U.i 43)) 8).bind fun p23 => some p23).bind fun p => f_X12_parse_10 N m p) P
  have F1 := hV.f (t := t) (s := s) ksU tU gos.1 gos4 (by omega)
  have F2 := hV.f (t := t) (s := v1) kvU tU (by omega) gos4 (by omega)
  have F3 := hV.f (t := t) (s := U) (KP.rf t U) tU (by omega) gos4 (by omega)
  obtain ⟨γ0, hγ0⟩ : ∃ γ0, γ0 = (U.i 43).toNatClampNeg := ⟨_, rfl⟩
  rw [← hγ0] at F1 F2 F3
  obtain ⟨p1, p2, p3, p4, p5, p6, p7, p8, p9, p10, p11, p12, p13⟩ := id F1
  have kvV := F2.2.2.2.2.2.2.2.2.2.2.2.1
  have kUV := F3.2.2.2.2.2.2.2.2.2.2.2.1
  have LV : LAT noZ U0 c V := LU.kpg kUV tU.1.1 (fun γ b L k h1 h2 h3 h4 => by
    have e : γ = γ0 := by omega
    subst e
    rw [p9 b] at h3
    have := ISCH.uniq h3 (show ISCH V (-1) [] from (show (-1 : Int) < 0 by omega))
    rw [this] at h4
    exact absurd h4 List.not_mem_nil)
  obtain ⟨B2, hB2⟩ : ∃ B2, B2 = V.setA 73 t (U.i 43) := ⟨_, rfl⟩
  have i2 : B2.i = V.i := by rw [hB2]; rfl
  have ab : ∀ k : Nat, k ≠ 73 → B2.a k = V.a k := fun k hk => by rw [hB2]; exact setA_nk hk
  have a73 : B2.a 73 t = U.i 43 := by rw [hB2]; exact setA_at
  have k2 : KP t s B2 := by rw [hB2]; exact p12.loc t _ (by omega) (by omega) (Nat.le_refl _)
  have kv2 : KP t v1 B2 := by rw [hB2]; exact kvV.loc t _ (by omega) (by omega) (Nat.le_refl _)
  have tb2 : TBL V B2 := by rw [hB2]; exact TBL.loc V t _ (by omega) (by omega)
  have b2 : B2.b = V.b := by rw [hB2]; rfl
  rw [← hB2]
  clear hB2
  have ib2 : ∀ j : Nat, j ≠ 43 → B2.i j = U.i j := fun j hj => by rw [i2]; exact p3 j hj
  have l2 : LXI B2 := lU.of (ib2 2 (by decide)) (ib2 10 (by decide)) (ib2 11 (by decide)) (ib2 12 (by decide)) (ib2 14 (by decide)) (by rw [b2]; exact p4)
  have t2 : tpI B2 = t := by
    unfold tpI
    rw [ib2 63 (by decide), iUc 63 (by omega) (by decide) (by decide)]
    exact a2
  have r75 : B2.i 75 = 0 ∨ B2.i 75 = 1 := by rw [ib2 75 (by decide), iUc 75 (by omega) (by decide) (by decide)]; exact a1.r
  rcases BODY (N := N) (u := B2) 8 l2 t2 h9 with ⟨S, eS, y1, y2⟩ | ⟨eS, y1⟩
  · rw [eS]
    exact lp_f y2 (hF S (FS'.of k2.1.1 y1 y2 r75)) (by omega)
  rw [eS]
  show ok (f_X12_parse_10 N m (TH B2 t 8 2)) P
  have d15 : D.i 15 = 0 := by rw [← iU 15 (by decide), ← ib2 15 (by decide)]; exact y1
  obtain ⟨z1, ⟨z2, z3, z4⟩, z5⟩ := x3 d15
  have fE : fr E = fr c := by unfold fr; rw [iE 11 (by decide)]
  have tkE : tkI E = tkI c := by unfold tkI; rw [iE 17 (by decide)]
  have tkc := a1.tk
  have tkD := tk_add z2 ⟨by omega, by omega⟩
  have f2 : fr B2 = fr D := by unfold fr; rw [ib2 11 (by decide), iU 11 (by decide)]
  have tk2 : tkI B2 = tkI D := by unfold tkI; rw [ib2 17 (by decide), iU 17 (by decide)]
  have B19 : B2.i 19 = s.i 19 := by rw [ib2 19 (by decide), iU 19 (by decide), z5, iE 19 (by decide), a4.1, Int32.add_sub_cancel]
  have B38 : B2.i 38 = c.i 38 := by rw [ib2 38 (by decide), iUc 38 (by omega) (by decide) (by decide)]
  have B52 : B2.i 52 = s.i 52 := by rw [ib2 52 (by decide), iUc 52 (by omega) (by decide) (by decide)]; exact a4.2.2.1
  have B56 : B2.i 56 = s.i 56 := by rw [ib2 56 (by decide), iUc 56 (by omega) (by decide) (by decide)]; exact a4.2.2.2
  have cB2 : cdI B2 = cdI c + 2 := by have : cdI B2 = cdI U := by { unfold cdI; rw [ib2 20 (by decide)] }; omega
  have e2 : enI B2 = enI c := by unfold enI; rw [ib2 24 (by decide), iUc 24 (by omega) (by decide) (by decide)]
  have e3 : trI B2 = trI c := by unfold trI; rw [ib2 29 (by decide), iUc 29 (by omega) (by decide) (by decide)]
  have e4 : caI B2 = caI c := by unfold caI; rw [ib2 33 (by decide), iUc 33 (by omega) (by decide) (by decide)]
  have e5 : seI B2 = seI c := by unfold seI; rw [B38]
  have e6 : slI B2 = slI c := by unfold slI; rw [ib2 42 (by decide), iUc 42 (by omega) (by decide) (by decide)]
  have e8 : deI B2 = deI c := by unfold deI; rw [ib2 52 (by decide), iUc 52 (by omega) (by decide) (by decide)]
  have e9 : waI B2 = waI c := by unfold waI; rw [ib2 56 (by decide), iUc 56 (by omega) (by decide) (by decide)]
  have e10 : peI B2 = peI c := by unfold peI; rw [ib2 59 (by decide), iUc 59 (by omega) (by decide) (by decide)]
  have o2 : op B2 = op s := by unfold op; rw [B19]
  have gB : goI B2 = goI s + 1 := by have : goI B2 = goI V := by { unfold goI; rw [i2] }; omega
  have raB : RATE s B2 := by
    unfold RATE at a6 ⊢
    rw [cB2, e2, e3, e4, e6, e10, f2, tk2]
    omega
  have sab : ∀ y : Nat, B2.a 40 y = c.a 40 y := fun y => by rw [ab 40 (by decide), p5 40 (by omega), aU 40 (by decide) (by decide) (by decide)]
  have snB : SNW s B2 := by
    refine ⟨by have := a5.1; omega, fun y h1 h2 => ?_⟩
    have := a5.2 y h1 (by omega)
    unfold gv at this ⊢
    rw [sab y]; exact this
  have tB2 : TAB B2 := p13.tbl tb2 (fun γ hγ => by
    have := (p13.2.2.2.2.2.2.1 γ hγ).2
    have : deI B2 = deI V := by unfold deI; rw [i2]
    omega) r75
  have iB2 : INV B2 := by
    refine ⟨l2, hI.2.1.kp k2, y1, tB2, ?_⟩
    have ns := hI.2.2.2.2
    have q2 := k2.2.1.1
    have q3 := k2.2.2.1.1
    have q4 := k2.2.2.2.1.1
    have q5 := k2.2.2.2.2.1.1
    have q6 := k2.2.2.2.2.2.1
    have q10 := k2.2.2.2.2.2.2.2.2.2.1.1
    have dd : deI c = deI s := by unfold deI; rw [a4.2.2.1]
    have ww : waI c = waI s := by unfold waI; rw [a4.2.2.2]
    have sn1 := snB.1
    have q6a := q6.1
    have q6b := q6.2.1
    unfold RATE at raB
    unfold NUM at ns ⊢
    rw [o2, gB, e8, dd, e9, ww]
    omega
  have b46U : bel 46 (goI s) s U := fun j hj => by rw [aU 46 (by decide) (by decide) (by decide)]; exact a10 j hj
  have prl : PRL B2 := (PRS.lgr hp hV gU ksU.2.2.2.2.2.2.1.2.1 b46U (by omega) gos4).tbl tb2
  have f2f := iB2.1.f0
  refine CALLS (hs (by omega)) iB2 prl.prs t2 (by omega) (by omega) (by omega) (by omega) (fun u hu => hF u (FS'.kp k2 hu)) (fun m4 v2 hv2 hf2 hm4 => ?_)
  have fv2 := hv2.1.1.f0
  obtain ⟨m5, rfl⟩ : ∃ m5, m4 = m5 + 1 := ⟨m4 - 1, by omega⟩
  have push5 : ((m5 + 1 : Nat) : Int) = (m5 : Int) + 1 := by omega
  rw [push5] at hm4
  have loc : ∀ k : Nat, 64 ≤ k → k ≤ 72 → B2.a k t = c.a k t := fun k h1 h2 => by rw [ab k (by omega), p5 k (by omega), aU k (by omega) (by omega) (by omega)]
  have b21 : ∀ j : Nat, B2.a 21 j = U.a 21 j := fun j => by rw [ab 21 (by decide), p5 21 (by omega)]
  have b22 : ∀ j : Nat, B2.a 22 j = U.a 22 j := fun j => by rw [ab 22 (by decide), p5 22 (by omega)]
  have u21 : ∀ j : Nat, (j : Int) < cdI c → B2.a 21 j = c.a 21 j := fun j hj => by rw [b21, UU21, if_neg (by omega), aH 21 (by decide), aD, E21, if_neg (by omega)]
  have hdB : ∀ b : Bool, hd B2 b γ0 = -1 := fun b => by
    have : hd B2 b γ0 = hd V b γ0 := by
      unfold hd gv
      rw [ab _ (by rcases bk_cases b with e | e <;> rw [e] <;> decide)]
    rw [this]; exact p9 b
  refine FO8 (m := m5) (xr := D.i 20) (xi := c.a 66 t) (γ0 := γ0) (z := z) hN hI h9 kJ sJ nJ tJ J75 fJ tsJ J0 ((kA.tr k1 (Nat.le_refl _)).tr kv2 (Nat.le_refl _)) kA cA A38 A52 fA te hz k1 i1 d1 f1 f1' le1 kU cU U38 U52 fU tu ku fc kv2 cB2 ?_ ?_ ?_ cD ?_ ?_ c66 ?_ (B38.trans c38) B19 B52 B56 (by omega) (by omega) (fun q => by rw [ib2 18 (by decide), iUc 18 (by omega) (by decide) (by decide)]; exact q) (by omega) gv1 gB ?_ ?_ hdB raB ?_ ?_ ?_ ?_ ?_ ?_ ?_ snB (LV.tbs tb2.tbs p13.1.1) tB2.1.1 hv2 (fun u hu hf' => hC m5 u hu (by omega) (by omega))
  · rw [u21 _ (by omega)]; exact c21q
  · rw [u21 _ (by omega)]; exact c21r
  · rw [b22, UU22, if_neg (by omega)]; exact H22r
  · rw [b21, UU21, if_neg (by omega), aH 21 (by decide), aD, E21, if_pos rfl]
  · rw [b22, UU22, if_neg (by omega), H22 _ (by omega), aD]; exact E22
  · rw [b21, UU21, if_pos (by rw [cH])]
  · rw [ab 44 (by decide)]; exact p7
  · unfold gv
    rw [ab 47 (by decide), p8]
    exact dU
  · unfold RATE at a6; omega
  · rw [loc 64 (by omega) (by omega)]; exact c64
  · rw [loc 67 (by omega) (by omega)]; exact c67
  · rw [loc 70 (by omega) (by omega)]; exact c70
  · rw [loc 71 (by omega) (by omega)]; exact c71
  · rw [loc 72 (by omega) (by omega)]; exact c72
  · rw [a73]
    show goI U = γ0
    omega
