/-! reading: while: from its word to its body -/
theorem WH2 {N b : Nat} (hN : 4000 ≤ N) (hs : 1 ≤ b → RUNS N (b - 1)) {m : Nat} {s R A v v' : RS} {t : Nat} {P : RS → Prop} {z : Int32} (hI : INV s) (hp : PRS s) (h9 : t < 998) (hb : 2 * (t : Int) ≤ fr s + 12 * op s + 2) (hc : 900 - fr s ≤ b) (hF : ∀ u, FS' s u → P u) (mR : MM t s R) (kA : KP t R A) (tA : TBL R A) (oA' : A.i 19 = R.i 19 + 1) (dA' : A.i 52 = R.i 52) (fA : fr R + 1 ≤ fr A) (tkA : tkI A = tkI R + 1) (hv : PC t 1 A v) (cA : cdI A = cdI s + 1) (A21 : A.a 21 (cdI s).toNat = 1) (A66 : (A.a 66 t).toInt = cdI A) (A64 : A.a 64 t = 10) (b46 : bel 46 (goI s) s A) (hz : z = 0 ∨ z = 1 ∧ cdI v = cdI A + 1 ∧ v.a 21 (cdI A).toNat = 2 ∧ v.a 22 (cdI A).toNat = 1) (fR : fr s + 2 ≤ fr R) (hn : 36000 + 20 ≤ (m : Int) + 40 * fr v) (iv' : INV v') (kv' : KP t v v') (tb' : TBL v v') (a71 : v'.a 71 t = z) (an : ∀ k : Nat, k ≠ 71 → v'.a k = v.a k) (ii : v'.i = v.i) (hC : ∀ (m' : Nat) (u : RS), PS t s u → fr v ≤ fr u → (m : Int) + 40 * fr v ≤ m' + 40 * fr u → ok (f_X12_parse_10 N m' u) P) : ok ((f_X12_whiles_111 N v' (v'.i 63)).bind fun p => f_X12_parse_10 N m p) P := by
  have hv' := hv
  obtain ⟨v1, v2, v3, v4, v5, v6, v7, v8, v9, v10, v11, v12⟩ := hv'
  have fv := v1.1.f0
  have cv := v1.cd
  have cs := hI.cd
  have hf := hI.1.f0
  have gos := hI.2.2.2.2.2.2.2.2.2.2.2.1
  have des := hI.2.2.2.2.2.2.2.2.2.2.2.2.1
  have ksA : KP t s A := mR.2.2.1.tr kA (Nat.le_refl _)
  have ksv : KP t s v := ksA.tr v3 (Nat.le_refl _)
  have fv' : fr v' = fr v := by unfold fr; rw [ii]
  have tv' : tpI v' = t := by unfold tpI at *; rw [ii]; exact v2
  unfold f_X12_whiles_111
  rw [tp_nat tv']
  have hN1 : 1000 ≤ N := by omega
  obtain ⟨w, ew, x1, x2⟩ := SHO hN1 iv' 41 (by decide)
  rw [ew]
  obtain ⟨B, hB⟩ : ∃ B, B = w.2 := ⟨_, rfl⟩
  rw [← hB] at x1 x2
  show ok (((f_X12_emit N w.2 13 0).bind fun p16 => if ib (v'.i 63) 1000 then (f_X12_emit N (RS.setA p16.2 67 t p16.1) 1 0).bind fun p19 => (f_X12_loopGoal N p19.2).bind fun p21 => (f_X12_body N (RS.setA p21.2 68 t p21.1) 2).bind fun p23 => some p23 else none).bind fun p => f_X12_parse_10 N m p) P
  rw [← hB]
  clear hB ew
  have cB : cdI B = cdI v := x1.tbl.cd.trans tb'.cd
  rw [p_em 13 0 (by omega) (by omega)]
  obtain ⟨E2, hE2⟩ : ∃ E2, E2 = (EM B 13 0).setA 67 t (B.i 20) := ⟨_, rfl⟩
  have lE : LXI E2 := by rw [hE2]; exact LXI.sA (LXI.em (o := 13) (x := 0) x1.2.2.2.1) 67 t (B.i 20)
  have iE : ∀ j : Nat, j ≠ 20 → E2.i j = B.i j := fun j hj => by rw [hE2]; exact EM.i hj
  have cE : cdI E2 = cdI v + 1 := by rw [hE2]; exact (EM.cd (u := B) (o := 13) (x := 0) (by omega) (by omega)).trans (by rw [cB])
  have kE : KP t v E2 := by rw [hE2]; exact (((kv'.lx x1)).em cv.1 (by omega)).loc t _ (by omega) (by omega) (Nat.le_refl _)
  have tE : TAB E2 := by
    rw [hE2]
    have tB := iv'.2.2.2.1.lx x1
    have t1 := tB.em (o := 13) (x := 0) (by omega) (by omega)
    exact t1.tbl (TBL.loc _ t _ (by omega) (by omega)) (fun γ hγ => (t1.2.2.2.2.2.2.1 γ hγ).2) t1.2.2.2.2.2.2.2.2.2
  have E21 : E2.a 21 (cdI v).toNat = 13 := by rw [hE2, setA_nk (by decide), EM.a21, if_pos (by rw [cB])]
  have E67 : (E2.a 67 t).toInt = cdI v := by rw [hE2, setA_at]; exact cB
  have aE : ∀ k : Nat, k ≠ 21 → k ≠ 22 → k ≠ 23 → k ≠ 67 → E2.a k = B.a k := fun k h1 h2 h3 h4 => by rw [hE2, setA_nk h4, EM.a h1 h2 h3]
  have bE : E2.b 9 = B.b 9 := by rw [hE2]; rfl
  have mE : MM t s B → MM t s E2 := fun mB => by
    rw [hE2]
    have raw := mB.2.2.2.2.2.1
    refine (mB.em hI ?_).loc _ (by omega) (by omega)
    unfold RATE at v6
    have := mB.2.2.2.2.2.2.1
    have : fr v + 1 ≤ fr B ∨ ¬ B.i 15 = 0 := by
      rcases x2 with q | q
      · exact Or.inr q
      · exact Or.inl (by have := q.2.2.2.1; omega)
    rcases this with q | q
    · omega
    · exact absurd mB.1.2.2.1 q
  show ok ((if ib (v'.i 63) 1000 then (f_X12_emit N ((EM B 13 0).setA 67 t (B.i 20)) 1 0).bind fun p19 => (f_X12_loopGoal N p19.2).bind fun p21 => (f_X12_body N (RS.setA p21.2 68 t p21.1) 2).bind fun p23 => some p23 else none : Option RS).bind fun p => f_X12_parse_10 N m p) P
  rw [if_pos (tp_ib tv' (by omega)), ← hE2]
  clear hE2
  rw [p_em 1 0 (by omega) (by omega)]
  obtain ⟨U, hU⟩ : ∃ U, U = EM E2 1 0 := ⟨_, rfl⟩
  have lU : LXI U := by rw [hU]; exact LXI.em lE
  have iU : ∀ j : Nat, j ≠ 20 → U.i j = B.i j := fun j hj => by rw [hU, EM.i hj]; exact iE j hj
  have cU : cdI U = cdI v + 2 := by rw [hU, EM.cd (by omega) (by omega)]; omega
  have kU : KP t v U := by rw [hU]; exact kE.em cv.1 (by omega)
  have tU : TAB U := by rw [hU]; exact tE.em (by omega) (by omega)
  have U21 : U.a 21 (cdI v).toNat = 13 := by rw [hU, EM.a21, if_neg (by omega)]; exact E21
  have U21' : U.a 21 (cdI v + 1).toNat = 1 := by rw [hU, EM.a21, if_pos (by rw [cE])]
  have aU : ∀ k : Nat, k ≠ 21 → k ≠ 22 → k ≠ 23 → U.a k = E2.a k := fun k h1 h2 h3 => by rw [hU, EM.a h1 h2 h3]
  have mU : MM t s B → MM t s U := fun mB => by
    have mE2 := mE mB
    rw [hU]
    refine mE2.em hI ?_
    have fE : fr E2 = fr B := by unfold fr; rw [iE 11 (by decide)]
    unfold RATE at v6
    rcases x2 with q | q
    · exact absurd mB.1.2.2.1 q
    · have := q.2.2.2.1; omega
  show ok (((f_X12_loopGoal N (EM E2 1 0)).bind fun p21 => (f_X12_body N (RS.setA p21.2 68 t p21.1) 2).bind fun p23 => some p23).bind fun p => f_X12_parse_10 N m p) P
  rw [← hU]
  clear hU
  have iUv : ∀ j : Nat, j < 10 ∨ 18 ≤ j → j ≠ 19 → j ≠ 20 → U.i j = v.i j := fun j h1 h2 h3 => by rw [iU j h3, x1.2.2.1 j h1 h2, ii]
  have eA43 : A.i 43 = s.i 43 := (tA.2.2 43 (by omega) (by omega) (by omega) (by omega)).trans mR.2.2.2.1.2.1
  have eA52 : A.i 52 = s.i 52 := dA'.trans mR.2.2.2.1.2.2.1
  have gvs : goI v = goI s := by unfold goI; rw [v4.2.1, eA43]
  have gU : goI U = goI s := by
    have : goI U = goI v := by unfold goI; rw [iUv 43 (by omega) (by decide) (by decide)]
    omega
  have dU : deI U = deI s := by unfold deI; rw [iUv 52 (by omega) (by decide) (by decide), v4.2.2.1, eA52]
  have gos4 : goI U < 460 := by omega
  obtain ⟨V, eV, hV⟩ := p_lg (N := N) hN1 (u := U) (by omega) gos4
  rw [eV]
  show ok (((f_X12_body N (RS.setA V 68 t (U.i 43)) 2).bind fun p23 => some p23).bind fun p => f_X12_parse_10 N m p) P
  have F1 := hV.f (t := t) (s := s) (ksv.tr kU (Nat.le_refl _)) tU gos.1 gos4 (by omega)
  have F2 := hV.f (t := t) (s := v) kU tU (by omega) gos4 (by omega)
  obtain ⟨γ0, hγ0⟩ : ∃ γ0, γ0 = (U.i 43).toNatClampNeg := ⟨_, rfl⟩
  rw [← hγ0] at F1 F2
  obtain ⟨p1, p2, p3, p4, p5, p6, p7, p8, p9, p10, p11, p12, p13⟩ := id F1
  have kvV := F2.2.2.2.2.2.2.2.2.2.2.2.1
  obtain ⟨B2, hB2⟩ : ∃ B2, B2 = V.setA 68 t (U.i 43) := ⟨_, rfl⟩
  have i2 : B2.i = V.i := by rw [hB2]; rfl
  have a2 : ∀ k : Nat, k ≠ 68 → B2.a k = V.a k := fun k hk => by rw [hB2]; exact setA_nk hk
  have a68 : B2.a 68 t = U.i 43 := by rw [hB2]; exact setA_at
  have k2 : KP t s B2 := by rw [hB2]; exact p12.loc t _ (by omega) (by omega) (Nat.le_refl _)
  have kv2 : KP t v B2 := by rw [hB2]; exact kvV.loc t _ (by omega) (by omega) (Nat.le_refl _)
  have tb2 : TBL V B2 := by rw [hB2]; exact TBL.loc V t _ (by omega) (by omega)
  have b2 : B2.b = V.b := by rw [hB2]; rfl
  rw [← hB2]
  clear hB2
  have ib2 : ∀ j : Nat, j ≠ 43 → B2.i j = U.i j := fun j hj => by rw [i2]; exact p3 j hj
  have l2 : LXI B2 := lU.of (ib2 2 (by decide)) (ib2 10 (by decide)) (ib2 11 (by decide)) (ib2 12 (by decide)) (ib2 14 (by decide)) (by rw [b2]; exact p4)
  have t2 : tpI B2 = t := by
    unfold tpI
    rw [ib2 63 (by decide), iUv 63 (by omega) (by decide) (by decide)]
    exact v2
  have r75 : B2.i 75 = 0 ∨ B2.i 75 = 1 := by rw [ib2 75 (by decide), iUv 75 (by omega) (by decide) (by decide)]; exact v1.r
  rcases BODY (N := N) (u := B2) 2 l2 t2 h9 with ⟨S, eS, y1, y2⟩ | ⟨eS, y1⟩
  · rw [eS]
    exact lp_f y2 (hF S (FS'.of k2.1.1 y1 y2 r75)) (by omega)
  rw [eS]
  show ok (f_X12_parse_10 N m (TH B2 t 2 2)) P
  have b15 : B.i 15 = 0 := by rw [← iU 15 (by decide), ← ib2 15 (by decide)]; exact y1
  rcases x2 with q | ⟨-, y3, y4, y5, y6⟩
  · exact absurd b15 q
  have mB : MM t s B := MM.clo2 hI mR kA tA oA' dA' fA tkA iv' tv' (v3.tr kv' (Nat.le_refl _)) ⟨by rw [ii]; exact v4.1, by rw [ii]; exact v4.2.1, by rw [ii]; exact v4.2.2.1, by rw [ii]; exact v4.2.2.2⟩ (by rw [ii]; exact v5) (v6.tr (tb'.rate (by omega) (by unfold tkI fr; rw [ii]; omega))) (by omega) (by unfold tkI at *; rw [ii]; omega) x1 b15 y4 y5 y6
  have mU' := mU mB
  have fU : fr U = fr B := by unfold fr; rw [iU 11 (by decide)]
  have iV : INV V := inv_lgr mU'.1 F1 (by omega)
  have iB2 : INV B2 := iV.tbl tb2 l2 y1 (by rw [i2]) (by rw [i2]) r75 (by unfold fr; rw [i2]; exact Int.le_refl _) (by have := iV.tk; unfold tkI fr at *; rw [i2]; exact this)
  have f2 : fr B2 = fr B := by unfold fr; rw [ib2 11 (by decide), iU 11 (by decide)]
  have kg := (ksv.tr kU (Nat.le_refl _)).2.2.2.2.2.2.1
  have b46U : bel 46 (goI s) s U := fun j hj => by
    rw [aU 46 (by decide) (by decide) (by decide), aE 46 (by decide) (by decide) (by decide) (by decide), x1.1, an 46 (by decide), v10.1 j (by have : goI A = goI s := by { unfold goI; rw [eA43] }; omega)]
    exact b46 j hj
  have prl : PRL B2 := (PRS.lgr hp hV gU kg.2.1 b46U (by omega) gos4).tbl tb2
  have o2 : op B2 = op s := by
    have : op B2 = op U := by unfold op; rw [ib2 19 (by decide)]
    have := mU'.2.2.2.1.eOp
    omega
  have f2f := iB2.1.f0
  refine CALLS (hs (by omega)) iB2 prl.prs t2 (by omega) (by omega) (by omega) (by omega) (fun u hu => hF u (FS'.kp k2 hu)) (fun m4 v2' hv2 hf2 hm4 => ?_)
  have fv2 := hv2.1.1.f0
  obtain ⟨m5, rfl⟩ : ∃ m5, m4 = m5 + 1 := ⟨m4 - 1, by omega⟩
  have push5 : ((m5 + 1 : Nat) : Int) = (m5 : Int) + 1 := by omega
  rw [push5] at hm4
  have aB : ∀ k : Nat, 64 ≤ k → k ≤ 73 → k ≠ 68 → k ≠ 67 → k ≠ 71 → k ≠ 65 → B2.a k t = A.a k t := fun k h1 h2 h3 h4 h5 h6 => by
    rw [a2 k h3, p5 k (by omega), aU k (by omega) (by omega) (by omega), aE k (by omega) (by omega) (by omega) h4, x1.1, an k h5, v12 k h1 h2 h6]
  have cA' : cdI B2 = cdI v + 2 := by
    have : cdI B2 = cdI U := by unfold cdI; rw [ib2 20 (by decide)]
    omega
  have a21 : ∀ j : Nat, B2.a 21 j = U.a 21 j := fun j => by rw [a2 21 (by decide), p5 21 (by omega)]
  have hdB : ∀ b : Bool, hd B2 b γ0 = -1 := fun b => by
    have : hd B2 b γ0 = hd V b γ0 := by
      unfold hd gv
      rw [a2 _ (by rcases bk_cases b with e | e <;> rw [e] <;> decide)]
    rw [this]; exact p9 b
  refine WH3 (m := m5) (s := s) (A := A) (v := v) (B2 := B2) (v2 := v2') (t := t) (γ0 := γ0) (z := z) hN hI h9 ksA cA A21 ((tA.2.2 38 (by omega) (by omega) (by omega) (by omega)).trans mR.2.2.2.2.1) eA52 (by omega) v9 hz v3 v1 (v4.2.2.1.trans eA52) v7 v6 gvs kv2 cA' (by rw [a21]; exact U21) (by rw [a21]; exact U21') ?_ ?_ ?_ ?_ (by omega) ?_ (by omega) ?_ ?_ ?_ hdB ?_ ?_ ?_ ?_ ?_ ?_ hv2 (by omega) (fun m' u' hu' hf' hm' => hC m' u' hu' (by omega) (by omega))
  · exact (ib2 38 (by decide)).trans mU'.2.2.2.2.1
  · exact (ib2 19 (by decide)).trans mU'.2.2.2.1.1
  · exact (ib2 52 (by decide)).trans mU'.2.2.2.1.2.2.1
  · exact (ib2 56 (by decide)).trans mU'.2.2.2.1.2.2.2
  · have := mU'.2.2.2.2.2.2.2
    have e : tkI B2 = tkI U := by unfold tkI; rw [ib2 17 (by decide)]
    omega
  · have : goI B2 = goI V := by unfold goI; rw [i2]
    omega
  · rw [a2 44 (by decide)]; exact p7
  · unfold gv
    rw [a2 47 (by decide), p8]
    exact dU
  · exact mU'.2.2.2.2.2.1.cg ib2
  · rw [aB 64 (by omega) (by omega) (by decide) (by decide) (by decide) (by decide)]; exact A64
  · rw [aB 66 (by omega) (by omega) (by decide) (by decide) (by decide) (by decide)]; exact A66
  · rw [a2 67 (by decide), p5 67 (by omega), aU 67 (by decide) (by decide) (by decide)]; exact E67
  · rw [a68]
    show goI U = γ0
    omega
  · rw [a2 71 (by decide), p5 71 (by omega), aU 71 (by decide) (by decide) (by decide), aE 71 (by decide) (by decide) (by decide) (by decide), x1.1]; exact a71
theorem run_while {N b : Nat} (hN : 4000 ≤ N) (hc' : 1 ≤ b → RUNE N 20 1 20 15 (b - 1)) (hs : 1 ≤ b → RUNS N (b - 1)) : RUNU N b 10 (fun x => x = 415) := by
  intro n s u t P hI hp ht hu tu u15 hT hz h9 hb hc hn n1 hF hC
  have hf := hI.1.f0
  have cs := hI.cd
  refine lp_10 tu (by omega) u15 hu.2.2.2.2.2.2.1 ?_
  unfold f_X12_whiles
  rw [if_pos (tp_ib tu (by omega)), tp_nat tu, if_pos hu.2.2.2.2.2.2.2.1]
  have hN1 : 1000 ≤ N := by omega
  obtain ⟨R0, eR, hR, xR⟩ := STA hN1 hI ht hz hu
  have mR0 := hR.mm
  obtain ⟨r1, r2, r3, r4, r5, r6, r7, r8, r9, r10, r11, r12, r13, r14⟩ := hR
  have r13 := r13 (by rw [hT]; decide)
  rw [eR]
  show ok (((f_X12_open N (RS.setA R0 66 t (R0.i 20)) 40).bind fun p5 => (if (p5.2.i 10) = 432 then f_X12_whiles_77 N (RS.setA p5.2 69 t (p5.2.i 17)) else f_X12_whiles_77 N (RS.setA p5.2 69 t 0))).bind fun p => f_X12_parse_10 N n p) P
  obtain ⟨R, hRR⟩ : ∃ R, R = R0.setA 66 t (R0.i 20) := ⟨_, rfl⟩
  have mR : MM t s R := by rw [hRR]; exact mR0.loc _ (by omega) (by omega)
  have aR : ∀ k : Nat, k ≠ 66 → R.a k = R0.a k := fun k hk => by rw [hRR]; exact setA_nk hk
  have a66 : R.a 66 t = R0.i 20 := by rw [hRR]; exact setA_at
  have iR : R.i = R0.i := by rw [hRR]; rfl
  rw [← hRR]
  clear hRR
  have fR : fr R = fr R0 := by unfold fr; rw [iR]
  have oR : op R = op s := mR.2.2.2.1.eOp
  obtain ⟨p, ep, hpp⟩ := OPO (t := t) hN1 mR.1 40 (by decide)
  rw [ep]
  have e69 : ∃ y : Int32, ((if (p.2.i 10) = 432 then f_X12_whiles_77 N (RS.setA p.2 69 t (p.2.i 17)) else f_X12_whiles_77 N (RS.setA p.2 69 t 0)) : Option RS) = f_X12_whiles_77 N (RS.setA p.2 69 t y) ∧ (y = 0 ∨ p.2.i 10 = 432 ∧ y = p.2.i 17) := by
    by_cases c : p.2.i 10 = 432
    · rw [if_pos c]; exact ⟨_, rfl, Or.inr ⟨c, rfl⟩⟩
    · rw [if_neg c]; exact ⟨_, rfl, Or.inl rfl⟩
  obtain ⟨y, ey, hy⟩ := e69
  show ok (((if (p.2.i 10) = 432 then f_X12_whiles_77 N (RS.setA p.2 69 t (p.2.i 17)) else f_X12_whiles_77 N (RS.setA p.2 69 t 0)) : Option RS).bind fun p => f_X12_parse_10 N n p) P
  rw [ey]
  unfold f_X12_whiles_77
  rcases hpp with ⟨p1, p2, p3⟩ | ⟨p1, p2, p3, q1, q2, q3, q4, q5, q6, q7, q8, q9, q10, q11⟩
  · rw [p_th 1 20 (u := p.2.setA 69 t y) (p2.tp.trans mR.2.1) (by omega)]
    exact lp_f (u := TH (p.2.setA 69 t y) t 1 20) p1 (hF _ (FS'.th ((FS'.of mR.2.2.1.1.1 p2 p1 mR.1.r).loc t y (by omega) (by omega)))) n1
  obtain ⟨A, hA⟩ : ∃ A, A = p.2.setA 69 t y := ⟨_, rfl⟩
  have iA : INV A := by rw [hA]; exact q1.loc t y (by omega) (by omega)
  have kA : KP t R A := by rw [hA]; exact q3.loc t y (by omega) (by omega) (Nat.le_refl _)
  have tA : TBL R A := by rw [hA]; exact q4.tr (TBL.loc _ t y (by omega) (by omega))
  have iiA : A.i = p.2.i := by rw [hA]; rfl
  have aA : ∀ k : Nat, k ≠ 69 → A.a k = R.a k := fun k hk => by rw [hA, setA_nk hk, q10]
  have a69 : A.a 69 t = y := by rw [hA]; exact setA_at
  have tpA : tpI A = t := by unfold tpI; rw [iiA]; exact q2.trans mR.2.1
  rw [← hA]
  clear hA
  have fA : fr A = fr p.2 := by unfold fr; rw [iiA]
  have tkA : tkI A = tkI R + 1 := by have : tkI A = tkI p.2 := by { unfold tkI; rw [iiA] }; omega
  have oA : op A = op s + 1 := by have : op A = op p.2 := by { unfold op; rw [iiA] }; omega
  have fAf := iA.1.f0
  rw [p_th 1 20 tpA (by omega)]
  show ok (f_X12_parse_10 N n (TH A t 1 20)) P
  have ksA : KP t s A := mR.2.2.1.tr kA (Nat.le_refl _)
  refine CALL (hc' (by omega)) iA tpA (by omega) (by omega) (by omega) (by omega) (fun u hu => hF u (FS'.kp ksA hu)) (fun m v hv hm => ?_)
  have hv' := hv
  obtain ⟨v1, v2, v3, v4, v5, v6, v7, v8, v9, v10, v11, v12⟩ := hv'
  have fv := v1.1.f0
  obtain ⟨m3, rfl⟩ : ∃ m3, m = m3 + 1 := ⟨m - 1, by omega⟩
  have push3 : ((m3 + 1 : Nat) : Int) = (m3 : Int) + 1 := by omega
  rw [push3] at hm
  have A64 : A.a 64 t = 10 := by rw [aA 64 (by decide), aR 64 (by decide)]; exact r11
  refine lp_10 v2 (by omega) v1.2.2.1 ((v12 64 (by omega) (by omega) (by omega)).trans A64) ?_
  unfold f_X12_whiles
  rw [if_pos (tp_ib v2 (by omega)), tp_nat v2, if_neg (by rw [v11]; decide), if_pos v11]
  have v69 : v.a 69 t = y := (v12 69 (by omega) (by omega) (by omega)).trans a69
  obtain ⟨z, ez, hz'⟩ := p_jt (N := N) (v := v) (v.a 69 t)
  rw [ez]
  have e71 : ((if z = 0 then f_X12_whiles_111 N (RS.setA v 71 t 0) (v.i 63) else f_X12_whiles_111 N (RS.setA v 71 t 1) (v.i 63)) : Option RS) = f_X12_whiles_111 N (RS.setA v 71 t z) (v.i 63) := by
    rcases hz' with c | c
    · rw [if_pos c, c]
    · rw [if_neg (by rw [c.1]; decide), c.1]
  show ok (((if z = 0 then f_X12_whiles_111 N (RS.setA v 71 t 0) (v.i 63) else f_X12_whiles_111 N (RS.setA v 71 t 1) (v.i 63)) : Option RS).bind fun p => f_X12_parse_10 N m3 p) P
  rw [e71]
  have cA : cdI A = cdI s + 1 := by
    have : cdI A = cdI R := tA.cd
    have : cdI R = cdI R0 := by unfold cdI; rw [iR]
    omega
  have hzz : z = 0 ∨ z = 1 ∧ cdI v = cdI A + 1 ∧ v.a 21 (cdI A).toNat = 2 ∧ v.a 22 (cdI A).toNat = 1 := by
    rcases hz' with c | ⟨c1, c2, c3⟩
    · exact Or.inl c
    · right
      rw [v69] at c2 c3
      rcases hy with h | ⟨h1, h2⟩
      · rw [h] at c2; exact absurd (by decide) c2
      · have e10 : A.i 10 = 432 := by rw [iiA]; exact h1
        have e17 : v.i 17 = A.i 17 + 1 := by rw [c3, h2, iiA]
        have tk : tkI v = tkI A + 1 := tk_add e17 ⟨iA.tk.1, by have := iA.tk; omega⟩
        exact ⟨c1, v10.2 e10 tk⟩
  obtain ⟨v', hv71⟩ : ∃ v', v' = v.setA 71 t z := ⟨_, rfl⟩
  have iv' : INV v' := by rw [hv71]; exact v1.loc t z (by omega) (by omega)
  have kv' : KP t v v' := by rw [hv71]; exact (KP.rf t v).loc t z (by omega) (by omega) (Nat.le_refl _)
  have tb' : TBL v v' := by rw [hv71]; exact TBL.loc v t z (by omega) (by omega)
  have a71 : v'.a 71 t = z := by rw [hv71]; exact setA_at
  have an : ∀ k : Nat, k ≠ 71 → v'.a k = v.a k := fun k hk => by rw [hv71]; exact setA_nk hk
  have ii : v'.i = v.i := by rw [hv71]; rfl
  rw [← hv71]
  have e63 : v.i 63 = v'.i 63 := by rw [ii]
  rw [e63]
  clear hv71
  have b46 : bel 46 (goI s) s A := fun j _ => by rw [aA 46 (by decide), aR 46 (by decide), r14 46 (by decide) (by decide) (by decide) (by decide)]
  have A66 : (A.a 66 t).toInt = cdI A := by
    rw [aA 66 (by decide), a66]
    show cdI R0 = cdI A
    omega
  have A21 : A.a 21 (cdI s).toNat = 1 := by rw [aA 21 (by decide), aR 21 (by decide)]; exact r10
  exact WH2 hN hs hI hp h9 hb hc hF mR kA tA (by rw [iiA]; exact q5) (by rw [iiA]; exact q7) (by omega) tkA hv cA A21 A66 A64 b46 hzz (by omega) (by omega) iv' kv' tb' a71 an ii (fun m' u' hu' hf' hm' => hC m' u' hu' (by omega) (by omega))
