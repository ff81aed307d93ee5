/-! reading: for over rows: its body -/
def RWT (t : Nat) (s D : RS) : Prop := ∀ (Q B2 v2 : RS) (γ0 : Nat), KP t D Q → cdI Q = cdI D → SNW s Q → TAB Q → goI Q = goI s → KP t Q B2 → B2.i 38 = Q.i 38 → cdI B2 = cdI D + 1 → B2.a 21 (cdI D).toNat = 24 → B2.a 23 (cdI D).toNat = D.i 42 → slI D < slI B2 → caI B2 = caI D → deI B2 = deI s + 1 → fr D + 1 ≤ fr B2 → (γ0 : Int) = goI s → goI B2 = goI s + 1 → B2.a 44 γ0 = 0 → gv B2 47 γ0 = deI s + 1 → (∀ b : Bool, hd B2 b γ0 = -1) → TS B2 v2 → KP t B2 v2 → INV v2 → SAME B2 v2 → fr B2 ≤ fr v2 → ¬ 0 ≤ v2.i 18 → RWS t s Q v2 γ0 (cdI D).toNat
theorem RO12 {N b : Nat} (hN : 4000 ≤ N) (hs : 1 ≤ b → RUNS N (b - 1)) {m : Nat} {s D : RS} {t : Nat} {P : RS → Prop} (hI : INV s) (hp : PRS s) (h9 : t < 998) (hb : 2 * (t : Int) ≤ fr s + 12 * op s + 2) (hcb : 900 - fr s ≤ b) (hF : ∀ u, FS' s u → P u) (mD : MF t s D) (cD : cdI s + 2 ≤ cdI D) (D64 : D.a 64 t = 12) (D65 : D.a 65 t = 12) (D71 : D.a 71 t = s.i 38) (fD : fr s + 4 ≤ fr D) (slD : 2 * (slI D + 1 - slI s) ≤ fr D - fr s) (hT : RWT t s D) (hn : 36000 ≤ (m : Int) + 40 * fr D) (n1 : 1 ≤ m) (hC : ∀ (m' : Nat) (u : RS), PS t s u → fr D ≤ fr u → (m : Int) + 40 * fr D ≤ m' + 40 * fr u → ok (f_X12_parse_10 N m' u) P) : ok (f_X12_parse_10 N (m + 1) D) P := by
  have hN1 : 1000 ≤ N := by omega
  obtain ⟨a1, a2, a3, a4, a5, a6, a7, a8, a9, a10⟩ := id mD
  have fDf := a1.1.f0
  have hf := hI.1.f0
  have cc := a1.cd
  have cs := hI.cd
  have gos := hI.2.2.2.2.2.2.2.2.2.2.2.1
  have des := hI.2.2.2.2.2.2.2.2.2.2.2.2.1
  have hop := hI.op
  have nse := a1.2.2.2.2.2.2.2.2.2.1
  have nsl := a1.2.2.2.2.2.2.2.2.2.2.1
  have ekD : ((cdI D).toNat : Int) = cdI D := Int.toNat_of_nonneg cc.1
  refine lp_12 a2 (by omega) a1.2.2.1 D64 ?_
  unfold f_X12_fors
  rw [if_pos (tp_ib a2 (by omega)), tp_nat a2, if_neg (by rw [D65]; decide), if_neg (by rw [D65]; decide), if_neg (by rw [D65]; decide), if_neg (by rw [D65]; decide), if_neg (by rw [D65]; decide), if_neg (by rw [D65]; decide), if_neg (by rw [D65]; decide), if_neg (by rw [D65]; decide), if_neg (by rw [D65]; decide), bind_some]
  unfold f_X12_rows
  rw [if_pos (tp_ib a2 (by omega)), tp_nat a2, if_neg (by rw [D65]; decide), if_pos D65, p_se (N := N) (u := D) (D.b 74 t) (Or.inl rfl) nse.1 (by omega)]
  obtain ⟨q, hq⟩ : ∃ q, q = SE D (D.b 74 t) 0 := ⟨_, rfl⟩
  have mq : MF t s q := by rw [hq]; exact mD.se hI slD
  have qi : ∀ j : Nat, j ≠ 38 → j ≠ 42 → q.i j = D.i j := fun j h1 h2 => by rw [hq]; exact SE.eI h1 h2
  have qa : ∀ k : Nat, k ≠ 40 → k ≠ 41 → q.a k = D.a k := fun k h1 h2 => by rw [hq]; exact SE.eA h1 h2
  have qsl : slI q = slI D + 1 := by rw [hq]; exact SE.eSL (by omega) (by omega)
  have qk : KP t D q := by rw [hq]; exact (KP.rf t D).se nse.1 (by omega) (by omega) (by omega)
  show ok (((f_X12_shut N (SE D (D.b 74 t) 0) 41).bind fun p18 => (f_X12_emit N (RS.setI p18.2 52 ((p18.2.i 52) + 1)) 24 0).bind fun p20 => if ib ((upd (p20.2.a 66) t p20.1) t) 3000 then (f_X12_loopGoal N (RS.setA (RS.setA p20.2 66 t p20.1) 23 ((((upd (p20.2.a 66) t p20.1) t) : Int32).toNatClampNeg) (D.i 42))).bind fun p23 => (f_X12_body N (RS.setA p23.2 73 t p23.1) 13).bind fun p25 => some p25 else none).bind fun p => f_X12_parse_10 N m p) P
  rw [← hq]
  clear hq
  have cq : cdI q = cdI D := by unfold cdI; rw [qi 20 (by decide) (by decide)]
  have fq : fr q = fr D := by unfold fr; rw [qi 11 (by decide) (by decide)]
  have tkq : tkI q = tkI D := by unfold tkI; rw [qi 17 (by decide) (by decide)]
  obtain ⟨D0, eD, x1, x2, x3⟩ := p_sh hN1 mq.1.1 41 (by decide)
  rw [eD]
  obtain ⟨S, hS⟩ : ∃ S, S = D0.2 := ⟨_, rfl⟩
  show ok (((f_X12_emit N (RS.setI D0.2 52 ((D0.2.i 52) + 1)) 24 0).bind fun p20 => if ib ((upd (p20.2.a 66) t p20.1) t) 3000 then (f_X12_loopGoal N (RS.setA (RS.setA p20.2 66 t p20.1) 23 ((((upd (p20.2.a 66) t p20.1) t) : Int32).toNatClampNeg) (D.i 42))).bind fun p23 => (f_X12_body N (RS.setA p23.2 73 t p23.1) 13).bind fun p25 => some p25 else none).bind fun p => f_X12_parse_10 N m p) P
  rw [← hS] at x1 x2 x3 ⊢
  clear hS eD
  have aS : S.a = q.a := x1.1
  have cS : cdI S = cdI D := x1.tbl.cd.trans cq
  have kDS : KP t D S := qk.lx x1
  have ksS : KP t s S := mq.2.2.1.lx x1
  have tS : TAB S := mq.1.2.2.2.1.lx x1
  have iS : ∀ j : Nat, (j < 10 ∨ 18 ≤ j) → j ≠ 19 → S.i j = q.i j := fun j h1 h2 => x1.2.2.1 j h1 h2
  obtain ⟨U, hU⟩ : ∃ U, U = S.setI 52 (S.i 52 + 1) := ⟨_, rfl⟩
  have iU : ∀ j : Nat, j ≠ 52 → U.i j = S.i j := fun j hj => by rw [hU]; exact if_neg hj
  have U52 : U.i 52 = S.i 52 + 1 := by rw [hU]; rfl
  have aU : U.a = S.a := by rw [hU]; rfl
  have kSU : KP t S U := by rw [hU]; exact (KP.rf t S).i52 _
  have tbU : TBL S U := by rw [hU]; exact TBL.i52 S _
  have lU : LXI U := by rw [hU]; exact x1.2.2.2.1
  rw [← hU]
  clear hU
  have S52 : S.i 52 = s.i 52 := by rw [iS 52 (by omega) (by decide)]; exact mq.2.2.2.1.2.2.1
  have dU : deI U = deI s + 1 := by
    have e1 : (1 : Int32).toInt = 1 := by decide
    have d2 : (s.i 52).toInt = deI s := rfl
    unfold deI
    rw [U52, S52, toInt_add] <;> rw [e1] <;> (unfold deI at *; omega)
  have dS : deI S = deI s := by unfold deI; rw [S52]
  have cU : cdI U = cdI D := tbU.cd.trans cS
  have tU : TAB U := tS.tbl tbU (fun γ hγ => by have := (tS.2.2.2.2.2.2.1 γ hγ).2; omega) (by rw [iU 75 (by decide)]; exact tS.2.2.2.2.2.2.2.2.2)
  rw [p_em 24 0 (by omega) (by omega)]
  obtain ⟨E, hE⟩ : ∃ E, E = EM U 24 0 := ⟨_, rfl⟩
  have lE : LXI E := by rw [hE]; exact LXI.em lU
  have kUE : KP t U E := by rw [hE]; exact (KP.rf t U).em (by omega) (by omega)
  have tE : TAB E := by rw [hE]; exact tU.em (by omega) (by omega)
  have iE : ∀ j : Nat, j ≠ 20 → E.i j = U.i j := fun j hj => by rw [hE]; exact EM.i hj
  have aE : ∀ k : Nat, k ≠ 21 → k ≠ 22 → k ≠ 23 → E.a k = U.a k := fun k h1 h2 h3 => by rw [hE]; exact EM.a h1 h2 h3
  have cE : cdI E = cdI D + 1 := by rw [hE, EM.cd (by omega) (by omega)]; omega
  have E21 : E.a 21 (cdI D).toNat = 24 := by rw [hE, EM.a21, if_pos (by rw [cU])]
  show ok ((if ib ((upd ((EM U 24 0).a 66) t (U.i 20)) t) 3000 then (f_X12_loopGoal N (RS.setA (RS.setA (EM U 24 0) 66 t (U.i 20)) 23 ((((upd ((EM U 24 0).a 66) t (U.i 20)) t) : Int32).toNatClampNeg) (D.i 42))).bind fun p23 => (f_X12_body N (RS.setA p23.2 73 t p23.1) 13).bind fun p25 => some p25 else none : Option RS).bind fun p => f_X12_parse_10 N m p) P
  rw [← hE]
  clear hE
  have eu : upd (E.a 66) t (U.i 20) t = U.i 20 := if_pos rfl
  have k20 : (U.i 20).toInt = ((cdI D).toNat : Int) := by rw [ekD]; exact cU
  rw [eu, if_pos (show ib (U.i 20) 3000 from ⟨by omega, by omega⟩), k_nat k20]
  obtain ⟨F, hFF⟩ : ∃ F, F = (E.setA 66 t (U.i 20)).setA 23 (cdI D).toNat (D.i 42) := ⟨_, rfl⟩
  have lF : LXI F := by rw [hFF]; exact (lE.sA 66 t _).sA 23 _ _
  have iF : F.i = E.i := by rw [hFF]; rfl
  have kSE : KP t S E := kSU.tr kUE (Nat.le_refl _)
  have kSF : KP t S F := by rw [hFF]; exact (kSE.loc t _ (by omega) (by omega) (Nat.le_refl _)).iy (by omega)
  have aF : ∀ k : Nat, k ≠ 66 → k ≠ 23 → F.a k = E.a k := fun k h1 h2 => by rw [hFF, setA_nk h2, setA_nk h1]
  have F66 : F.a 66 t = U.i 20 := by rw [hFF, setA_nk (by decide)]; exact setA_at
  have F23 : F.a 23 (cdI D).toNat = D.i 42 := by rw [hFF]; exact setA_at
  have tF : TAB F := by
    rw [hFF]
    exact (tE.tbl (TBL.loc E t _ (by omega) (by omega)) (fun γ hγ => (tE.2.2.2.2.2.2.1 γ hγ).2) tE.2.2.2.2.2.2.2.2.2).iy
  rw [← hFF]
  clear hFF
  have iFS : ∀ j : Nat, j ≠ 20 → j ≠ 52 → F.i j = S.i j := fun j h1 h2 => by rw [iF, iE j h1, iU j h2]
  have ksF : KP t s F := ksS.tr kSF (Nat.le_refl _)
  have cF : cdI F = cdI D + 1 := by have : cdI F = cdI E := by { unfold cdI; rw [iF] }; omega
  have gF : goI F = goI s := by unfold goI; rw [iFS 43 (by decide) (by decide), iS 43 (by omega) (by decide), mq.2.2.2.1.2.1]
  have gS : goI S = goI s := by unfold goI; rw [iS 43 (by omega) (by decide), mq.2.2.2.1.2.1]
  have dF : deI F = deI s + 1 := by have : deI F = deI U := by { unfold deI; rw [iF, iE 52 (by decide)] }; omega
  have gos4 : goI F < 460 := by omega
  obtain ⟨V, eV, hV⟩ := p_lg (N := N) hN1 (u := F) (by omega) gos4
  rw [eV]
  show ok (((f_X12_body N (RS.setA V 73 t (F.i 43)) 13).bind fun p23 => some p23).bind fun p => f_X12_parse_10 N m p) P
  have F1 := hV.f (t := t) (s := s) ksF tF gos.1 gos4 (by omega)
  have F2 := hV.f (t := t) (s := S) kSF tF (by omega) gos4 (by omega)
  obtain ⟨γ0, hγ0⟩ : ∃ γ0, γ0 = (F.i 43).toNatClampNeg := ⟨_, rfl⟩
  rw [← hγ0] at F1 F2
  obtain ⟨p1, p2, p3, p4, p5, p6, p7, p8, p9, p10, p11, p12, p13⟩ := id F1
  have kSV := F2.2.2.2.2.2.2.2.2.2.2.2.1
  obtain ⟨B2, hB2⟩ : ∃ B2, B2 = V.setA 73 t (F.i 43) := ⟨_, rfl⟩
  have i2 : B2.i = V.i := by rw [hB2]; rfl
  have ab : ∀ k : Nat, k ≠ 73 → B2.a k = V.a k := fun k hk => by rw [hB2]; exact setA_nk hk
  have a73 : B2.a 73 t = F.i 43 := by rw [hB2]; exact setA_at
  have k2 : KP t s B2 := by rw [hB2]; exact p12.loc t _ (by omega) (by omega) (Nat.le_refl _)
  have kS2 : KP t S B2 := by rw [hB2]; exact kSV.loc t _ (by omega) (by omega) (Nat.le_refl _)
  have tb2 : TBL V B2 := by rw [hB2]; exact TBL.loc V t _ (by omega) (by omega)
  have b2 : B2.b = V.b := by rw [hB2]; rfl
  rw [← hB2]
  clear hB2
  have ib2 : ∀ j : Nat, j ≠ 43 → B2.i j = F.i j := fun j hj => by rw [i2]; exact p3 j hj
  have l2 : LXI B2 := lF.of (ib2 2 (by decide)) (ib2 10 (by decide)) (ib2 11 (by decide)) (ib2 12 (by decide)) (ib2 14 (by decide)) (by rw [b2]; exact p4)
  have t2 : tpI B2 = t := by
    unfold tpI
    rw [ib2 63 (by decide), iFS 63 (by decide) (by decide), iS 63 (by omega) (by decide)]
    exact mq.2.1
  have r75 : B2.i 75 = 0 ∨ B2.i 75 = 1 := by rw [ib2 75 (by decide), iFS 75 (by decide) (by decide), iS 75 (by omega) (by decide)]; exact mq.1.r
  rcases BODY (N := N) (u := B2) 13 l2 t2 h9 with ⟨S9, eS9, y1, y2⟩ | ⟨eS9, y1⟩
  · rw [eS9]
    exact lp_f y2 (hF S9 (FS'.of k2.1.1 y1 y2 r75)) n1
  rw [eS9]
  show ok (f_X12_parse_10 N m (TH B2 t 13 2)) P
  have s15 : S.i 15 = 0 := by rw [← iFS 15 (by decide) (by decide), ← ib2 15 (by decide)]; exact y1
  obtain ⟨z1, ⟨z2, z3, z4⟩, z5⟩ := x3 s15
  have tkD := a1.tk
  have tkS := tk_add z2 ⟨by omega, by omega⟩
  have f2 : fr B2 = fr S := by unfold fr; rw [ib2 11 (by decide), iFS 11 (by decide) (by decide)]
  have tk2 : tkI B2 = tkI S := by unfold tkI; rw [ib2 17 (by decide), iFS 17 (by decide) (by decide)]
  have bS : ∀ j : Nat, j ≠ 20 → j ≠ 43 → j ≠ 52 → B2.i j = S.i j := fun j h1 h2 h3 => by rw [ib2 j h2, iFS j h1 h3]
  have bq : ∀ j : Nat, (j < 10 ∨ 18 ≤ j) → j ≠ 19 → j ≠ 20 → j ≠ 43 → j ≠ 52 → B2.i j = q.i j := fun j h1 h2 h3 h4 h5 => by rw [bS j h3 h4 h5, iS j h1 h2]
  have B19 : B2.i 19 = s.i 19 := by rw [bS 19 (by decide) (by decide) (by decide), z5, mq.2.2.2.1.1, Int32.add_sub_cancel]
  have B52 : B2.i 52 = s.i 52 + 1 := by rw [ib2 52 (by decide), iF, iE 52 (by decide), U52, S52]
  have B56 : B2.i 56 = s.i 56 := by rw [bq 56 (by omega) (by decide) (by decide) (by decide) (by decide)]; exact mq.2.2.2.1.2.2.2
  have cB2 : cdI B2 = cdI D + 1 := by have : cdI B2 = cdI F := by { unfold cdI; rw [ib2 20 (by decide)] }; omega
  have e2 : enI B2 = enI q := by unfold enI; rw [bq 24 (by omega) (by decide) (by decide) (by decide) (by decide)]
  have e3 : trI B2 = trI q := by unfold trI; rw [bq 29 (by omega) (by decide) (by decide) (by decide) (by decide)]
  have e4 : caI B2 = caI q := by unfold caI; rw [bq 33 (by omega) (by decide) (by decide) (by decide) (by decide)]
  have e5 : seI B2 = seI q := by unfold seI; rw [bq 38 (by omega) (by decide) (by decide) (by decide) (by decide)]
  have e6 : slI B2 = slI q := by unfold slI; rw [bq 42 (by omega) (by decide) (by decide) (by decide) (by decide)]
  have e8 : deI B2 = deI s + 1 := by have : deI B2 = deI F := by { unfold deI; rw [ib2 52 (by decide)] }; omega
  have e9 : waI B2 = waI s := by unfold waI; rw [B56]
  have e10 : peI B2 = peI q := by unfold peI; rw [bq 59 (by omega) (by decide) (by decide) (by decide) (by decide)]
  have o2 : op B2 = op s := by unfold op; rw [B19]
  have gB : goI B2 = goI s + 1 := by have : goI B2 = goI V := by { unfold goI; rw [i2] }; omega
  have raq := mq.2.2.2.2.2.1
  have raB : RATE s B2 := by
    unfold RATE at raq ⊢
    rw [cB2, e2, e3, e4, e6, e10, f2, tk2]
    omega
  have sab : ∀ y : Nat, B2.a 40 y = q.a 40 y := fun y => by rw [ab 40 (by decide), p5 40 (by omega), aF 40 (by decide) (by decide), aE 40 (by decide) (by decide) (by decide), aU, aS]
  have snq := mq.2.2.2.2.1
  have snB : SNW s B2 := by
    refine ⟨by have := snq.1; omega, fun y h1 h2 => ?_⟩
    have := snq.2 y h1 (by omega)
    unfold gv at this ⊢
    rw [sab y]; exact this
  have tB2 : TAB B2 := p13.tbl tb2 (fun γ hγ => by
    have := (p13.2.2.2.2.2.2.1 γ hγ).2
    have : deI B2 = deI V := by unfold deI; rw [i2]
    omega) r75
  have iB2 : INV B2 := by
    refine ⟨l2, hI.2.1.kp k2, y1, tB2, ?_⟩
    have ns := hI.2.2.2.2
    have q2 := k2.2.1.1
    have q3 := k2.2.2.1.1
    have q4 := k2.2.2.2.1.1
    have q5 := k2.2.2.2.2.1.1
    have q6 := k2.2.2.2.2.2.1
    have q10 := k2.2.2.2.2.2.2.2.2.2.1.1
    have sn1 := snB.1
    have q6a := q6.1
    have q6b := q6.2.1
    unfold RATE at raB
    unfold NUM at ns ⊢
    rw [o2, gB, e8, e9]
    omega
  have b46F : bel 46 (goI s) s F := fun j hj => by rw [aF 46 (by decide) (by decide), aE 46 (by decide) (by decide) (by decide), aU, aS]; exact mq.2.2.2.2.2.2.2.2.2 j hj
  have prl : PRL B2 := (PRS.lgr hp hV gF ksF.2.2.2.2.2.2.1.2.1 b46F (by omega) gos4).tbl tb2
  have f2f := iB2.1.f0
  refine CALLS (hs (by omega)) iB2 prl.prs t2 (by omega) (by omega) (by omega) (by omega) (fun u hu => hF u (FS'.kp k2 hu)) (fun m4 v2 hv2 hf2 hm4 => ?_)
  have fv2 := hv2.1.1.f0
  obtain ⟨m5, rfl⟩ : ∃ m5, m4 = m5 + 1 := ⟨m4 - 1, by omega⟩
  have push5 : ((m5 + 1 : Nat) : Int) = (m5 : Int) + 1 := by omega
  rw [push5] at hm4
  have loc : ∀ k : Nat, 64 ≤ k → k ≤ 72 → k ≠ 66 → B2.a k t = D.a k t := fun k h1 h2 h3 => by rw [ab k (by omega), p5 k (by omega), aF k h3 (by omega), aE k (by omega) (by omega) (by omega), aU, aS, qa k (by omega) (by omega)]
  have hdB : ∀ b : Bool, hd B2 b γ0 = -1 := fun b => by
    have : hd B2 b γ0 = hd V b γ0 := by
      unfold hd gv
      rw [ab _ (by rcases bk_cases b with e | e <;> rw [e] <;> decide)]
    rw [this]; exact p9 b
  have B21 : B2.a 21 (cdI D).toNat = 24 := by rw [ab 21 (by decide), p5 21 (by omega), aF 21 (by decide) (by decide)]; exact E21
  have B23 : B2.a 23 (cdI D).toNat = D.i 42 := by rw [ab 23 (by decide), p5 23 (by omega)]; exact F23
  have B44 : B2.a 44 γ0 = 0 := by rw [ab 44 (by decide)]; exact p7
  have B47 : gv B2 47 γ0 = deI s + 1 := by
    unfold gv
    rw [ab 47 (by decide), p8]
    exact dF
  have caq : caI q = caI D := by unfold caI; rw [qi 33 (by decide) (by decide)]
  have snS : SNW s S := snq.tbl x1.tbl
  have e9v := hv2.2.2.2.2.2.2.2.2.1
  refine RO13 (m := m5) (Q := S) (L := (cdI D).toNat) (γ0 := γ0) hN hI h9 k2 kS2 ksS B19 B52 B56 (by omega) (by omega) raB ?_ ?_ ?_ ?_ ?_ (by omega) (by omega) B21 (by omega) gB hdB snB hv2 (fun z => hT S B2 v2 γ0 kDS cS snS tS gS kS2 (bS 38 (by decide) (by decide) (by decide)) cB2 B21 B23 (by omega) (by omega) e8 (by omega) (by omega) gB B44 B47 hdB (e9v z) hv2.2.2.1 hv2.1 hv2.2.2.2.1 hv2.2.2.2.2.2.2.1 z) (fun u hu hf' => hC m5 u hu (by omega) (by omega))
  · unfold RATE at a6; omega
  · rw [loc 64 (by omega) (by omega) (by decide)]; exact D64
  · rw [ab 66 (by decide), p5 66 (by omega), F66]; exact k20
  · rw [loc 71 (by omega) (by omega) (by decide)]; exact D71
  · rw [a73]
    show goI F = γ0
    omega
