/-! reading: for: behind the condition -/
theorem FO5 {N b : Nat} (hN : 4000 ≤ N) (hx : 1 ≤ b → RUNE N 16 4 11 24 (b - 1)) (hs : 1 ≤ b → RUNS N (b - 1)) {m : Nat} {s J A v1 : RS} {t : Nat} {P : RS → Prop} {z : Int32} (hI : INV s) (hp : PRS s) (h9 : t < 998) (hb : 2 * (t : Int) ≤ fr s + 12 * op s + 2) (hcb : 900 - fr s ≤ b) (hF : ∀ u, FS' s u → P u)
  (kJ : KP t s J) (sJ : SAME s J) (nJ : SNW s J) (tJ : TAB J) (J75 : J.i 75 = 1) (fJ : fr s ≤ fr J) (tsJ : ¬ 0 ≤ J.i 18 → TS s J) (J0 : 0 ≤ cdI J)
  (kA : KP t J A) (cA : cdI A = cdI J) (A38 : A.i 38 = J.i 38) (A52 : A.i 52 = J.i 52) (fA : fr J ≤ fr A) (te : ¬ 0 ≤ v1.i 18 → z = 0 → TE A v1) (hz : z = 0 ∨ z = 1 ∧ cdI v1 = cdI A + 1 ∧ v1.a 21 (cdI A).toNat = 2 ∧ v1.a 22 (cdI A).toNat = 1) (k1 : KP t A v1) (f1 : fr A ≤ fr v1) (f1' : fr J + 2 ≤ fr v1) (le1 : cdI A ≤ cdI v1) (mv : MF t s v1) (v38 : v1.i 38 = J.i 38) (v64 : v1.a 64 t = 12) (v65 : v1.a 65 t = 5) (v66 : (v1.a 66 t).toInt = cdI A) (v71 : v1.a 71 t = s.i 38) (v72 : v1.a 72 t = z) (hn : 36000 + 5 ≤ (m : Int) + 40 * fr v1) (hC : ∀ (m' : Nat) (u : RS), PS t s u → fr v1 ≤ fr u → (m : Int) + 40 * fr v1 ≤ m' + 40 * fr u → ok (f_X12_parse_10 N m' u) P) : ok (f_X12_parse_10 N (m + 1) v1) P := by
  have hN1 : 1000 ≤ N := by omega
  obtain ⟨a1, a2, a3, a4, a5, a6, a7, a8, a9, a10⟩ := id mv
  have fvf := a1.1.f0
  have cv := a1.cd
  have cs := hI.cd
  have hop := hI.op
  have gv1 : goI v1 = goI s := mv.go
  refine lp_12 a2 (by omega) a1.2.2.1 v64 ?_
  unfold f_X12_fors
  rw [if_pos (tp_ib a2 (by omega)), tp_nat a2, if_neg (by rw [v65]; decide), if_neg (by rw [v65]; decide), if_neg (by rw [v65]; decide), if_neg (by rw [v65]; decide), if_neg (by rw [v65]; decide), if_pos v65, bind_some]
  unfold f_X12_forBehind
  rw [tp_nat a2]
  obtain ⟨M0, eM, x1, x2⟩ := NDO hN1 a1 59 (by decide)
  rw [eM]
  obtain ⟨M, hM⟩ : ∃ M, M = M0.2 := ⟨_, rfl⟩
  rw [← hM] at x1 x2
  have cM : cdI M = cdI v1 := x1.tbl.cd
  obtain ⟨F1, hF1⟩ : ∃ F1, F1 = (EM M 13 0).setA 67 t (M.i 20) := ⟨_, rfl⟩
  have c1 : cdI F1 = cdI v1 + 1 := by rw [hF1]; exact (EM.cd (u := M) (o := 13) (x := 0) (by omega) (by omega)).trans (by rw [cM])
  obtain ⟨F2, hF2⟩ : ∃ F2, F2 = EM F1 15 0 := ⟨_, rfl⟩
  have c2 : cdI F2 = cdI v1 + 2 := by rw [hF2, EM.cd (by omega) (by omega)]; omega
  obtain ⟨U, hU⟩ : ∃ U, U = (F2.setA 68 t (F1.i 20)).setA 70 t (F2.i 20) := ⟨_, rfl⟩
  show ok (((f_X12_emit N M0.2 13 0).bind fun p3 => if ib (v1.i 63) 1000 then (f_X12_emit N (RS.setA p3.2 67 t p3.1) 15 0).bind fun p6 => (if (p6.2.i 15) = 0 then (if (p6.2.i 10) = 41 then f_X12_forBehind_59 N (RS.setA (RS.setA p6.2 68 t p6.1) 70 t (p6.2.i 20)) (v1.i 63) else (if (p6.2.i 10) = 2 then (f_X12_can N (RS.setA (RS.setA p6.2 68 t p6.1) 70 t (p6.2.i 20)) 1).bind fun p40 => (if p40.1 = 0 then some p40.2 else f_X12_forBehind_89 N p40.2 (v1.i 63)) else (f_X12_can N (RS.setA (RS.setA p6.2 68 t p6.1) 70 t (p6.2.i 20)) 0).bind fun p12 => (if p12.1 = 0 then some p12.2 else f_X12_forBehind_89 N p12.2 (v1.i 63)))) else f_X12_forBehind_59 N (RS.setA (RS.setA p6.2 68 t p6.1) 70 t (p6.2.i 20)) (v1.i 63)) else none).bind fun p => f_X12_parse_10 N m p) P
  rw [← hM, p_em 13 0 (by omega) (by omega)]
  show ok ((if ib (v1.i 63) 1000 then (f_X12_emit N ((EM M 13 0).setA 67 t (M.i 20)) 15 0).bind fun p6 => (if (p6.2.i 15) = 0 then (if (p6.2.i 10) = 41 then f_X12_forBehind_59 N (RS.setA (RS.setA p6.2 68 t p6.1) 70 t (p6.2.i 20)) (v1.i 63) else (if (p6.2.i 10) = 2 then (f_X12_can N (RS.setA (RS.setA p6.2 68 t p6.1) 70 t (p6.2.i 20)) 1).bind fun p40 => (if p40.1 = 0 then some p40.2 else f_X12_forBehind_89 N p40.2 (v1.i 63)) else (f_X12_can N (RS.setA (RS.setA p6.2 68 t p6.1) 70 t (p6.2.i 20)) 0).bind fun p12 => (if p12.1 = 0 then some p12.2 else f_X12_forBehind_89 N p12.2 (v1.i 63)))) else f_X12_forBehind_59 N (RS.setA (RS.setA p6.2 68 t p6.1) 70 t (p6.2.i 20)) (v1.i 63)) else none : Option RS).bind fun p => f_X12_parse_10 N m p) P
  rw [if_pos (tp_ib a2 (by omega)), ← hF1, p_em 15 0 (by omega) (by omega)]
  show ok ((if ((EM F1 15 0).i 15) = 0 then (if ((EM F1 15 0).i 10) = 41 then f_X12_forBehind_59 N (RS.setA (RS.setA (EM F1 15 0) 68 t (F1.i 20)) 70 t ((EM F1 15 0).i 20)) (v1.i 63) else (if ((EM F1 15 0).i 10) = 2 then (f_X12_can N (RS.setA (RS.setA (EM F1 15 0) 68 t (F1.i 20)) 70 t ((EM F1 15 0).i 20)) 1).bind fun p40 => (if p40.1 = 0 then some p40.2 else f_X12_forBehind_89 N p40.2 (v1.i 63)) else (f_X12_can N (RS.setA (RS.setA (EM F1 15 0) 68 t (F1.i 20)) 70 t ((EM F1 15 0).i 20)) 0).bind fun p12 => (if p12.1 = 0 then some p12.2 else f_X12_forBehind_89 N p12.2 (v1.i 63)))) else f_X12_forBehind_59 N (RS.setA (RS.setA (EM F1 15 0) 68 t (F1.i 20)) 70 t ((EM F1 15 0).i 20)) (v1.i 63) : Option RS).bind fun p => f_X12_parse_10 N m p) P
  rw [← hF2, ← hU]
  have lU : LXI U := by rw [hU]; exact ((show LXI F2 by rw [hF2]; exact LXI.em (show LXI F1 by rw [hF1]; exact (LXI.em (o := 13) (x := 0) x1.2.2.2.1).sA 67 t _)).sA 68 t _).sA 70 t _
  have k01 : KP t v1 F1 := by rw [hF1]; exact (((KP.rf t v1).lx x1).em cv.1 (by omega)).loc t _ (by omega) (by omega) (Nat.le_refl _)
  have k02 : KP t v1 F2 := by rw [hF2]; exact k01.em cv.1 (by omega)
  have kU : KP t v1 U := by rw [hU]; exact (k02.loc t _ (by omega) (by omega) (Nat.le_refl _)).loc t _ (by omega) (by omega) (Nat.le_refl _)
  have i1F : ∀ j : Nat, j ≠ 20 → F1.i j = M.i j := fun j hj => by rw [hF1]; exact EM.i hj
  have i2F : ∀ j : Nat, j ≠ 20 → F2.i j = M.i j := fun j hj => by rw [hF2, EM.i hj]; exact i1F j hj
  have iU : ∀ j : Nat, j ≠ 20 → U.i j = M.i j := fun j hj => by rw [hU]; exact i2F j hj
  have cU : cdI U = cdI v1 + 2 := by have : cdI U = cdI F2 := by { rw [hU]; rfl }; omega
  have aU : ∀ k : Nat, k ≠ 21 → k ≠ 22 → k ≠ 23 → k ≠ 67 → k ≠ 68 → k ≠ 70 → U.a k = v1.a k := fun k h1 h2 h3 h4 h5 h6 => by rw [hU, setA_nk h6, setA_nk h5, hF2, EM.a h1 h2 h3, hF1, setA_nk h4, EM.a h1 h2 h3, x1.1]
  have U21q : U.a 21 (cdI v1).toNat = 13 := by rw [hU, setA_nk (by decide), setA_nk (by decide), hF2, EM.a21, if_neg (by omega), hF1, setA_nk (by decide), EM.a21, if_pos (by rw [cM])]
  have U21r : U.a 21 (cdI v1 + 1).toNat = 15 := by rw [hU, setA_nk (by decide), setA_nk (by decide), hF2, EM.a21, if_pos (by rw [c1])]
  have U67 : (U.a 67 t).toInt = cdI v1 := by rw [hU, setA_nk (by decide), setA_nk (by decide), hF2, EM.a (by decide) (by decide) (by decide), hF1, setA_at]; exact cM
  have U68 : (U.a 68 t).toInt = cdI v1 + 1 := by rw [hU, setA_nk (by decide), setA_at]; exact c1
  have U70 : (U.a 70 t).toInt = cdI U := by
    have : U.a 70 t = F2.i 20 := by rw [hU]; exact setA_at
    rw [this]
    show cdI F2 = cdI U
    omega
  have mU : MF t s M → fr v1 + 1 ≤ fr M → MF t s U := fun mM hfM => by
    rw [hU, hF2, hF1]
    have ra := a6
    unfold RATE at ra
    have m1 : MF t s ((EM M 13 0).setA 67 t (M.i 20)) := (mM.em hI (by omega)).loc _ (by omega) (by omega)
    have fr1 : fr ((EM M 13 0).setA 67 t (M.i 20)) = fr M := rfl
    rw [← hF1] at m1 fr1 ⊢
    exact ((m1.em hI (by omega)).loc _ (by omega) (by omega)).loc _ (by omega) (by omega)
  have e15 : F2.i 15 = M.i 15 := i2F 15 (by decide)
  have e10 : F2.i 10 = M.i 10 := i2F 10 (by decide)
  rw [e15, e10]
  clear hU hF2 hF1 hM eM
  have tpU : tpI U = t := by unfold tpI; rw [iU 63 (by decide), x1.i63]; exact a2
  have ksU : KP t s U := a3.tr kU (Nat.le_refl _)
  have r75 : U.i 75 = 0 ∨ U.i 75 = 1 := by rw [iU 75 (by decide), x1.2.2.1 75 (by omega) (by omega)]; exact a1.r
  have e59 : f_X12_forBehind_59 N U (v1.i 63) = some (U.setA 65 t 7) := by
    unfold f_X12_forBehind_59
    rw [if_pos (tp_ib a2 (by omega)), tp_nat a2]
  rw [e59]
  by_cases m15 : M.i 15 = 0
  case neg =>
    rw [if_neg m15]
    have u15 : ¬ U.i 15 = 0 := by rw [iU 15 (by decide)]; exact m15
    exact lp_f (u := U.setA 65 t 7) u15 (hF _ (FS'.loc (show FS' s U from ⟨u15, ksU.1.1, r75⟩) t 7 (by omega) (by omega))) (by omega)
  case pos =>
  rw [if_pos m15]
  rcases x2 with q | ⟨-, y1, y2, y3, y4, y5⟩
  · exact absurd m15 q
  have mM : MF t s M := mv.lx y2 x1 y3 y4 y5
  have mUU := mU mM y4
  have fU : fr U = fr M := by unfold fr; rw [iU 11 (by decide)]
  have tkU : tkI U = tkI M := by unfold tkI; rw [iU 17 (by decide)]
  have U38 : U.i 38 = J.i 38 := by rw [iU 38 (by decide), x1.i38]; exact v38
  have U52 : U.i 52 = J.i 52 := by rw [mUU.2.2.2.1.2.2.1]; exact sJ.2.2.1.symm
  have d1 : v1.i 52 = J.i 52 := by rw [a4.2.2.1]; exact sJ.2.2.1.symm
  have fin : ∀ (m' : Nat) (c : RS), (¬ 0 ≤ c.i 18 → TUP U c) → KP t U c → fr U ≤ fr c → MF t s c → c.i 38 = U.i 38 → c.a 65 t = 7 → (∀ k : Nat, 64 ≤ k → k ≤ 72 → k ≠ 65 → c.a k t = U.a k t) → 36000 + 1 ≤ (m' : Int) + 40 * fr c → (m : Int) + 40 * fr v1 ≤ m' + 40 * fr c → ok (f_X12_parse_10 N (m' + 1) c) P := by
    intro m' c tu kc fc mc c38 c65 loc hn' hm'
    refine FO7 (m := m') hN hs hI hp h9 hb hcb hF kJ sJ nJ tJ J75 fJ tsJ J0 kA cA A38 A52 fA te hz k1 a1 d1 f1 f1' le1 gv1 kU cU U38 U52 (by omega) U21q U21r tu kc fc mc (c38.trans U38) ?_ c65 ?_ ?_ ?_ ?_ ?_ ?_ hn' (fun m2 u hu hf hm => hC m2 u hu (by omega) (by omega))
    · rw [loc 64 (by omega) (by omega) (by decide), aU 64 (by decide) (by decide) (by decide) (by decide) (by decide) (by decide)]; exact v64
    · rw [loc 66 (by omega) (by omega) (by decide), aU 66 (by decide) (by decide) (by decide) (by decide) (by decide) (by decide)]; exact v66
    · rw [loc 67 (by omega) (by omega) (by decide)]; exact U67
    · rw [loc 68 (by omega) (by omega) (by decide)]; exact U68
    · rw [loc 70 (by omega) (by omega) (by decide)]; exact U70
    · rw [loc 71 (by omega) (by omega) (by decide), aU 71 (by decide) (by decide) (by decide) (by decide) (by decide) (by decide)]; exact v71
    · rw [loc 72 (by omega) (by omega) (by decide), aU 72 (by decide) (by decide) (by decide) (by decide) (by decide) (by decide)]; exact v72
  by_cases c41 : M.i 10 = 41
  · rw [if_pos c41]
    show ok (f_X12_parse_10 N m (U.setA 65 t 7)) P
    obtain ⟨m', rfl⟩ : ∃ m', m = m' + 1 := ⟨m - 1, by omega⟩
    have push' : ((m' + 1 : Nat) : Int) = (m' : Int) + 1 := by omega
    rw [push'] at hn
    exact fin m' (U.setA 65 t 7) (fun _ => TUP.nil (TBL.loc U t 7 (by omega) (by omega))) ((KP.rf t U).loc t 7 (by omega) (by omega) (Nat.le_refl _)) (Int.le_refl _) (mUU.loc 7 (by omega) (by omega)) rfl setA_at (fun k h1 h2 h3 => congrFun (setA_nk h3) t) (by show 36000 + 1 ≤ (m' : Int) + 40 * fr U; omega) (by show ((m' + 1 : Nat) : Int) + 40 * fr v1 ≤ m' + 40 * fr U; omega)
  rw [if_neg c41]
  have bad : ∀ S : RS, LX U S → ¬ S.i 15 = 0 → ok (f_X12_parse_10 N m S) P := fun S h1 h2 => lp_f h2 (hF S (FS'.of ksU.1.1 h1 h2 r75)) (by omega)
  by_cases c2' : M.i 10 = 2
  case neg =>
    rw [if_neg c2']
    obtain ⟨S, eS, h1, h2⟩ := can0 (N := N) lU ((iU 15 (by decide)).trans m15)
    rw [eS]
    exact bad S h1 h2
  rw [if_pos c2', can1 ((iU 15 (by decide)).trans m15) (by rw [iU 10 (by decide), c2']; decide)]
  show ok ((if (1 : Int32) = 0 then some U else f_X12_forBehind_89 N U (v1.i 63) : Option RS).bind fun p => f_X12_parse_10 N m p) P
  rw [if_neg (by decide)]
  unfold f_X12_forBehind_89
  obtain ⟨p, ep, hp2⟩ := GOT hN1 mUU.1 U.l (U.i 11)
  rw [ep, tp_nat a2]
  obtain ⟨G, hG⟩ : ∃ G, G = p.2 := ⟨_, rfl⟩
  show ok ((if ib (v1.i 63) 1000 then (f_X12_next N (RS.setA p.2 73 t p.1)).bind fun p18 => (if (p18.i 10) = 61 then (f_X12_can N p18 1).bind fun p21 => (if p21.1 = 0 then some p21.2 else f_X12_forBehind_143 N p21.2 (v1.i 63)) else (if (p18.i 10) = 307 then (f_X12_can N p18 1).bind fun p37 => (if p37.1 = 0 then some p37.2 else f_X12_forBehind_143 N p37.2 (v1.i 63)) else (f_X12_can N p18 0).bind fun p34 => (if p34.1 = 0 then some p34.2 else f_X12_forBehind_143 N p34.2 (v1.i 63)))) else none : Option RS).bind fun p => f_X12_parse_10 N m p) P
  rw [← hG] at hp2 ⊢
  rw [if_pos (tp_ib a2 (by omega))]
  clear hG ep
  have lG : LXI G := by rcases hp2 with ⟨-, q⟩ | ⟨q, -⟩; exact q.2.2.2.1; rw [q]; exact lU
  obtain ⟨K, eK, k1', k2', k3', k4'⟩ := p_nx hN1 (lG.sA 73 t p.1)
  rw [eK]
  have can : ∀ x : Int32, (G.i 15 = 0 → K.i 15 = 0 → ¬ x = 0 → ok ((f_X12_forBehind_143 N K (v1.i 63)).bind fun p => f_X12_parse_10 N m p) P) → ok (((f_X12_can N K x).bind fun p21 => (if p21.1 = 0 then some p21.2 else f_X12_forBehind_143 N p21.2 (v1.i 63)) : Option RS).bind fun p => f_X12_parse_10 N m p) P := fun x hgo => by
    obtain ⟨c, ec, q1, q2, q3⟩ := p_cn (N := N) k1'.2.2.2.1 x
    rw [ec]
    show ok ((if c.1 = 0 then some c.2 else f_X12_forBehind_143 N c.2 (v1.i 63) : Option RS).bind fun p => f_X12_parse_10 N m p) P
    rcases q3 with ⟨q3, q4⟩ | ⟨q3, q4, q5, q6⟩
    · rw [if_pos q3]
      refine lp_f q4 (hF c.2 ?_) (by omega)
      have kG : K1 s G := by
        rcases hp2 with ⟨-, r⟩ | ⟨r, -⟩
        · exact (ksU.lx r).1.1
        · rw [r]; exact ksU.1.1
      have k73 : K1 s (G.setA 73 t p.1) := ⟨kG.1, fun k hk => (if_neg (by omega)).trans (kG.2.1 k hk), kG.2.2⟩
      refine FS'.of (u := G.setA 73 t p.1) k73 (k1'.tr q1) q4 ?_
      show G.i 75 = 0 ∨ G.i 75 = 1
      rcases hp2 with ⟨-, r⟩ | ⟨r, -⟩
      · rw [r.2.2.1 75 (by omega) (by omega)]; exact r75
      · rw [r]; exact r75
    · rw [if_neg (by rw [q3]; decide), q4]
      exact hgo (k1'.2.2.2.2.1 q5) q5 q6
  have good : G.i 15 = 0 → K.i 15 = 0 → (K.i 10 = 61 ∨ K.i 10 = 307) → ok ((f_X12_forBehind_143 N K (v1.i 63)).bind fun p => f_X12_parse_10 N m p) P := by
    intro g15 k15 ktok
    rcases hp2 with ⟨q, -⟩ | ⟨q, sl⟩
    · exact absurd g15 q
    subst q
    have m73 : MF t s (G.setA 73 t p.1) := mUU.loc _ (by omega) (by omega)
    obtain ⟨-, kc⟩ := k4' g15
    obtain ⟨d1', d2', d3'⟩ := kc (show ¬ G.i 10 = 0 by rw [iU 10 (by decide), c2']; decide)
    have d2' : fr G + 1 ≤ fr K := d2'
    have tkG : tkI (G.setA 73 t p.1) = tkI G := rfl
    have tkk := tk_add d1' ⟨by have := mUU.1.tk; omega, by have := mUU.1.tk; have := mUU.1.1.f0; omega⟩
    have iK : INV K := m73.1.tbl k1'.tbl k1'.2.2.2.1 k15 k2' (k1'.2.2.1 52 (by omega) (by omega)) (by rw [k1'.2.2.1 75 (by omega) (by omega)]; exact m73.1.r) (by show fr G ≤ fr K; omega) ⟨by have := mUU.1.tk; omega, by have := mUU.1.tk; omega⟩
    have mK : MF t s K := m73.lx iK k1' k2' d2' tkk
    have kGK : KP t G K := ((KP.rf t G).loc (k := 73) t p.1 (by omega) (by omega) (Nat.le_refl _)).lx k1'
    unfold f_X12_forBehind_143 f_X12_forBehind_159
    obtain ⟨Y, eY, y1', y2', y3', y4', y5', y6', y7'⟩ := NX hN1 iK (by rcases ktok with h | h <;> (rw [h]; decide))
    have mY : MF t s Y := mK.lx y4' y1' y3' y5' y6'
    have kGY : KP t G Y := kGK.lx y1'
    have tGY : TBL G Y := ((TBL.loc G (k := 73) t p.1 (by omega) (by omega)).tr k1'.tbl).tr y1'.tbl
    have aY : Y.a = (G.setA 73 t p.1).a := y1'.1.trans k1'.1
    have Y73 : Y.a 73 t = p.1 := by rw [aY]; exact setA_at
    have locY : ∀ k : Nat, k ≠ 73 → Y.a k = G.a k := fun k hk => by rw [aY]; exact setA_nk hk
    have cY : cdI Y = cdI G := tGY.cd
    have fYf := y4'.1.f0
    have Y38 : Y.i 38 = G.i 38 := tGY.2.2 38 (by omega) (by omega) (by omega) (by omega)
    have raY := mY.2.2.2.2.2.1
    have cYd := y4'.cd
    by_cases c307 : K.i 10 = 307
    · rw [if_pos c307, eY, tp_nat a2]
      show ok ((if (1 : Int32) = 0 then (f_X12_then N Y 6 16).bind fun p28 => some p28 else (if ib (v1.i 63) 1000 then (f_X12_emit N Y 6 (Y.a 73 t)).bind fun p31 => some (RS.setA p31.2 65 t 7) else none) : Option RS).bind fun p => f_X12_parse_10 N m p) P
      rw [if_neg (by decide), if_pos (tp_ib a2 (by omega)), Y73, p_em 6 p.1 cYd.1 cYd.2.2]
      show ok (f_X12_parse_10 N m ((EM Y 6 p.1).setA 65 t 7)) P
      obtain ⟨c, hc⟩ : ∃ c, c = (EM Y 6 p.1).setA 65 t 7 := ⟨_, rfl⟩
      have mc : MF t s c := by
        rw [hc]
        refine (mY.em hI ?_).loc _ (by omega) (by omega)
        unfold RATE at a6; omega
      have kc' : KP t G c := by rw [hc]; exact (kGY.em mUU.1.cd.1 cYd.2.2).loc t _ (by omega) (by omega) (Nat.le_refl _)
      have cc : cdI c = cdI G + 1 := by rw [hc]; exact (EM.cd (u := Y) (o := 6) (x := p.1) cYd.1 cYd.2.2).trans (by rw [cY])
      have c21 : c.a 21 (cdI G).toNat = 6 := by rw [hc, setA_nk (by decide), EM.a21, if_pos (by rw [cY])]
      have c22 : c.a 22 (cdI G).toNat = p.1 := by rw [hc, setA_nk (by decide), EM.a22, if_pos (by rw [cY])]
      have c65 : c.a 65 t = 7 := by rw [hc]; exact setA_at
      have fc : fr c = fr Y := by rw [hc]; rfl
      have c38 : c.i 38 = G.i 38 := by rw [hc]; exact Y38
      have lc : ∀ k : Nat, 64 ≤ k → k ≤ 72 → k ≠ 65 → c.a k t = G.a k t := fun k h1 h2 h3 => by rw [hc, setA_nk h3, EM.a (by omega) (by omega) (by omega), locY k (by omega)]
      rw [← hc]
      clear hc
      obtain ⟨m', rfl⟩ : ∃ m', m = m' + 1 := ⟨m - 1, by omega⟩
      have push' : ((m' + 1 : Nat) : Int) = (m' : Int) + 1 := by omega
      rw [push'] at hn
      exact fin m' c (fun _ => TUP.inc mUU.1 cc c21 c22 sl) kc' (by omega) mc c38 c65 lc (by omega) (by rw [push']; omega)
    · rw [if_neg c307, eY]
      show ok ((if (0 : Int32) = 0 then (f_X12_then N Y 6 16).bind fun p28 => some p28 else (if ib (v1.i 63) 1000 then (f_X12_emit N Y 6 (Y.a 73 ((v1.i 63 : Int32).toNatClampNeg))).bind fun p31 => some (RS.setA p31.2 65 ((v1.i 63 : Int32).toNatClampNeg) 7) else none) : Option RS).bind fun p => f_X12_parse_10 N m p) P
      rw [if_pos rfl, p_th 6 16 mY.2.1 (by omega)]
      show ok (f_X12_parse_10 N m (TH Y t 6 16)) P
      have oY : op Y = op s + 1 := mY.2.2.2.2.2.2.2.2.1
      refine CALL (hx (by omega)) y4' mY.2.1 (by omega) (by omega) (by omega) (by omega) (fun u hu => hF u (FS'.kp mY.2.2.1 hu)) (fun m2 v hv hm2 => ?_)
      have mV := mY.pc mY.go hv
      obtain ⟨w1, w2, w3, w4, w5, w6, w7, w8, w9, w10, w11, w12⟩ := hv
      have fw := w1.1.f0
      have cw := w1.cd
      obtain ⟨m3, rfl⟩ : ∃ m3, m2 = m3 + 1 := ⟨m2 - 1, by omega⟩
      have push3 : ((m3 + 1 : Nat) : Int) = (m3 : Int) + 1 := by omega
      rw [push3] at hm2
      have w64 : v.a 64 t = 12 := by rw [w12 64 (by omega) (by omega) (by omega), locY 64 (by decide), aU 64 (by decide) (by decide) (by decide) (by decide) (by decide) (by decide)]; exact v64
      refine lp_12 w2 (by omega) w1.2.2.1 w64 ?_
      unfold f_X12_fors
      rw [if_pos (tp_ib w2 (by omega)), tp_nat w2, if_neg (by rw [w11]; decide), if_neg (by rw [w11]; decide), if_neg (by rw [w11]; decide), if_neg (by rw [w11]; decide), if_neg (by rw [w11]; decide), if_neg (by rw [w11]; decide), if_pos w11]
      have w73 : v.a 73 t = p.1 := (w12 73 (by omega) (by omega) (by omega)).trans Y73
      rw [w73, p_em 5 p.1 cw.1 cw.2.2]
      show ok (f_X12_parse_10 N m3 ((EM v 5 p.1).setA 65 t 7)) P
      obtain ⟨c, hc⟩ : ∃ c, c = (EM v 5 p.1).setA 65 t 7 := ⟨_, rfl⟩
      have mc : MF t s c := by
        rw [hc]
        refine (mV.em hI ?_).loc _ (by omega) (by omega)
        unfold RATE at a6 w6; omega
      have kc' : KP t v c := by rw [hc]; exact ((KP.rf t v).em cw.1 cw.2.2).loc t _ (by omega) (by omega) (Nat.le_refl _)
      have cc : cdI c = cdI v + 1 := by rw [hc]; exact EM.cd (u := v) (o := 5) (x := p.1) cw.1 cw.2.2
      have c21 : c.a 21 (cdI v).toNat = 5 := by rw [hc, setA_nk (by decide), EM.a21, if_pos rfl]
      have c22 : c.a 22 (cdI v).toNat = p.1 := by rw [hc, setA_nk (by decide), EM.a22, if_pos rfl]
      have c65 : c.a 65 t = 7 := by rw [hc]; exact setA_at
      have fc : fr c = fr v := by rw [hc]; rfl
      have c38 : c.i 38 = v.i 38 := by rw [hc]; rfl
      have c18 : c.i 18 = v.i 18 := by rw [hc]; rfl
      have gc : goI c = goI v := by rw [hc]; rfl
      have lc : ∀ k : Nat, 64 ≤ k → k ≤ 72 → k ≠ 65 → c.a k t = G.a k t := fun k h1 h2 h3 => by rw [hc, setA_nk h3, EM.a (by omega) (by omega) (by omega), w12 k (by omega) (by omega) h3, locY k (by omega)]
      rw [← hc]
      clear hc
      obtain ⟨m', rfl⟩ : ∃ m', m3 = m' + 1 := ⟨m3 - 1, by omega⟩
      have push' : ((m' + 1 : Nat) : Int) = (m' : Int) + 1 := by omega
      rw [push'] at hm2
      refine fin m' c (fun q => ?_) ((kGY.tr w3 (Nat.le_refl _)).tr kc' (Nat.le_refl _)) (by omega) mc ((c38.trans w5).trans Y38) c65 lc (by omega) (by omega)
      exact TUP.sto mUU.1 kGY cY Y38 (by rw [mY.2.2.2.1.2.2.1]; exact mUU.2.2.2.1.2.2.1.symm) (by omega) (w9 (by rw [← c18]; exact q)) w3 w1 (by rw [mV.2.2.2.1.2.2.1]; exact mUU.2.2.2.1.2.2.1.symm) w7 kc' (by omega) cc c21 c22 sl
  show ok ((if (K.i 10) = 61 then (f_X12_can N K 1).bind fun p21 => (if p21.1 = 0 then some p21.2 else f_X12_forBehind_143 N p21.2 (v1.i 63)) else (if (K.i 10) = 307 then (f_X12_can N K 1).bind fun p37 => (if p37.1 = 0 then some p37.2 else f_X12_forBehind_143 N p37.2 (v1.i 63)) else (f_X12_can N K 0).bind fun p34 => (if p34.1 = 0 then some p34.2 else f_X12_forBehind_143 N p34.2 (v1.i 63))) : Option RS).bind fun p => f_X12_parse_10 N m p) P
  by_cases c61 : K.i 10 = 61
  · rw [if_pos c61]; exact can 1 (fun h1 h2 _ => good h1 h2 (Or.inl c61))
  rw [if_neg c61]
  by_cases c307 : K.i 10 = 307
  · rw [if_pos c307]; exact can 1 (fun h1 h2 _ => good h1 h2 (Or.inr c307))
  rw [if_neg c307]
  exact can 0 (fun _ _ h => absurd rfl h)
