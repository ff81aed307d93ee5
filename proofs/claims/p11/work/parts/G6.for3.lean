/-! reading: for: the condition -/
theorem TBL.i11 (u : RS) (v : Int32) : TBL u (u.setI 11 v) := ⟨fun _ _ => rfl, rfl, fun _ _ _ _ _ => if_neg (by omega)⟩
theorem FO3 {N b : Nat} (hN : 4000 ≤ N) (hc' : 1 ≤ b → RUNE N 20 1 20 15 (b - 1)) (hx : 1 ≤ b → RUNE N 16 4 11 24 (b - 1)) (hs : 1 ≤ b → RUNS N (b - 1)) {m : Nat} {s I : RS} {t : Nat} {P : RS → Prop} (hI : INV s) (hp : PRS s) (h9 : t < 998) (hb : 2 * (t : Int) ≤ fr s + 12 * op s + 2) (hcb : 900 - fr s ≤ b) (hF : ∀ u, FS' s u → P u) (mI : MF t s I) (tsI : ¬ 0 ≤ I.i 18 → TS s (I.setI 75 1)) (I64 : I.a 64 t = 12) (I65 : I.a 65 t = 3) (I71 : I.a 71 t = s.i 38) (hn : 36000 ≤ (m : Int) + 40 * fr I) (n1 : 1 ≤ m) (hC : ∀ (m' : Nat) (u : RS), PS t s u → fr I ≤ fr u → (m : Int) + 40 * fr I ≤ m' + 40 * fr u → ok (f_X12_parse_10 N m' u) P) : ok (f_X12_parse_10 N (m + 1) I) P := by
  have hN1 : 1000 ≤ N := by omega
  obtain ⟨a1, a2, a3, a4, a5, a6, a7, a8, a9, a10⟩ := id mI
  have fIf := a1.1.f0
  have cI := a1.cd
  have cs := hI.cd
  have hop := hI.op
  have hf := hI.1.f0
  refine lp_12 a2 (by omega) a1.2.2.1 I64 ?_
  unfold f_X12_fors
  rw [if_pos (tp_ib a2 (by omega)), tp_nat a2, if_neg (by rw [I65]; decide), if_neg (by rw [I65]; decide), if_neg (by rw [I65]; decide), if_pos I65]
  obtain ⟨M0, eM, x1, x2⟩ := NDO hN1 a1 59 (by decide)
  rw [eM]
  obtain ⟨M, hM⟩ : ∃ M, M = M0.2 := ⟨_, rfl⟩
  show ok (((if (M0.2.i 10) = 432 then f_X12_fors_175 N (RS.setA (RS.setA M0.2 66 t (M0.2.i 20)) 69 t (M0.2.i 17)) (I.i 63) else f_X12_fors_175 N (RS.setA (RS.setA M0.2 66 t (M0.2.i 20)) 69 t 0) (I.i 63)) : Option RS).bind fun p => f_X12_parse_10 N m p) P
  rw [← hM] at x1 x2 ⊢
  clear hM eM
  have e69 : ∃ y : Int32, ((if (M.i 10) = 432 then f_X12_fors_175 N (RS.setA (RS.setA M 66 t (M.i 20)) 69 t (M.i 17)) (I.i 63) else f_X12_fors_175 N (RS.setA (RS.setA M 66 t (M.i 20)) 69 t 0) (I.i 63)) : Option RS) = f_X12_fors_175 N (RS.setA (RS.setA M 66 t (M.i 20)) 69 t y) (I.i 63) ∧ (y = 0 ∨ M.i 10 = 432 ∧ y = M.i 17) := by
    by_cases c : M.i 10 = 432
    · rw [if_pos c]; exact ⟨_, rfl, Or.inr ⟨c, rfl⟩⟩
    · rw [if_neg c]; exact ⟨_, rfl, Or.inl rfl⟩
  obtain ⟨y, ey, hy⟩ := e69
  rw [ey]
  clear ey
  have e72 : ∃ z : Int32, f_X12_fors_175 N (RS.setA (RS.setA M 66 t (M.i 20)) 69 t y) (I.i 63) = f_X12_fors_195 N (((M.setA 66 t (M.i 20)).setA 69 t y).setA 72 t z) (I.i 63) ∧ (M.i 10 = 59 ∧ z = 1 ∨ ¬ M.i 10 = 59 ∧ z = 0) := by
    unfold f_X12_fors_175
    rw [if_pos (tp_ib a2 (by omega)), if_pos (tp_ib a2 (by omega)), tp_nat a2]
    by_cases c : M.i 10 = 59
    · rw [if_pos (show ((M.setA 66 t (M.i 20)).setA 69 t y).i 10 = 59 from c)]; exact ⟨1, rfl, Or.inl ⟨c, rfl⟩⟩
    · rw [if_neg (show ¬ ((M.setA 66 t (M.i 20)).setA 69 t y).i 10 = 59 from c)]; exact ⟨0, rfl, Or.inr ⟨c, rfl⟩⟩
  obtain ⟨z0, ez0, hz0⟩ := e72
  rw [ez0]
  clear ez0
  obtain ⟨A, hA⟩ : ∃ A, A = ((M.setA 66 t (M.i 20)).setA 69 t y).setA 72 t z0 := ⟨_, rfl⟩
  have iA : A.i = M.i := by rw [hA]; rfl
  have aA : ∀ k : Nat, k ≠ 66 → k ≠ 69 → k ≠ 72 → A.a k = M.a k := fun k h1 h2 h3 => by rw [hA, setA_nk h3, setA_nk h2, setA_nk h1]
  have aN : ∀ (k j : Nat), j ≠ t → A.a k j = M.a k j := fun k j hj => by rw [hA, setA_ne hj, setA_ne hj, setA_ne hj]
  have A66 : A.a 66 t = M.i 20 := by rw [hA, setA_nk (by decide), setA_nk (by decide)]; exact setA_at
  have A69 : A.a 69 t = y := by rw [hA, setA_nk (by decide)]; exact setA_at
  have A72 : A.a 72 t = z0 := by rw [hA]; exact setA_at
  have tMA : TBL M A := by rw [hA]; exact ((TBL.loc M t _ (by omega) (by omega)).tr (TBL.loc _ t _ (by omega) (by omega))).tr (TBL.loc _ t _ (by omega) (by omega))
  have mMA : MF t s M → MF t s A := fun h => by rw [hA]; exact ((h.loc _ (by omega) (by omega)).loc _ (by omega) (by omega)).loc _ (by omega) (by omega)
  have fMA : FS' s M → FS' s A := fun h => by rw [hA]; exact ((h.loc t _ (by omega) (by omega)).loc t _ (by omega) (by omega)).loc t _ (by omega) (by omega)
  rw [← hA]
  clear hA
  have tpA : tpI A = t := by unfold tpI; rw [iA, x1.i63]; exact a2
  have cM : cdI M = cdI I := x1.tbl.cd
  have cA : cdI A = cdI I := tMA.cd.trans cM
  have tIA : TBL I A := x1.tbl.tr tMA
  unfold f_X12_fors_195
  rw [tp_nat a2]
  by_cases m15 : M.i 15 = 0
  case neg =>
    have fA := fMA (FS'.of a3.1.1 x1 m15 a1.r)
    by_cases c : A.i 10 = 59
    · rw [if_pos c, p_em 2 1 (by omega) (by omega)]
      show ok ((if ib (I.i 63) 1000 then some ((EM A 2 1).setA 65 t 5) else none : Option RS).bind fun p => f_X12_parse_10 N m p) P
      rw [if_pos (tp_ib a2 (by omega))]
      have q := (fA.em 2 1).loc (k := 65) t 5 (by omega) (by omega)
      exact lp_f (u := (EM A 2 1).setA 65 t 5) q.1 (hF _ q) n1
    · rw [if_neg c, p_th 4 20 tpA (by omega)]
      exact lp_f (u := TH A t 4 20) fA.1 (hF _ fA.th) n1
  rcases x2 with q | ⟨-, y1, y2, y3, y4, y5⟩
  · exact absurd m15 q
  have mM : MF t s M := mI.lx y2 x1 y3 y4 y5
  have mA := mMA mM
  have fAM : fr A = fr M := by unfold fr; rw [iA]
  obtain ⟨J, hJ⟩ : ∃ J, J = ((I.setI 75 1).setI 19 (s.i 19)).setI 11 (s.i 11) := ⟨_, rfl⟩
  have aJ : J.a = I.a := by rw [hJ]; rfl
  have tIJ : TBL I J := by rw [hJ]; exact ((TBL.i75 I 1).tr (TBL.i19 _ _)).tr (TBL.i11 _ _)
  have t7J : TBL (I.setI 75 1) J := by rw [hJ]; exact (TBL.i19 _ _).tr (TBL.i11 _ _)
  have kJ : KP t s J := by rw [hJ]; exact ((a3.i75 1).i19 _).i11 _
  have J75 : J.i 75 = 1 := by rw [hJ]; rfl
  have J19 : J.i 19 = s.i 19 := by rw [hJ]; rfl
  have J52 : J.i 52 = s.i 52 := by rw [hJ]; exact a4.2.2.1
  have J18 : J.i 18 = I.i 18 := by rw [hJ]; rfl
  have fJ : fr J = fr s := by rw [hJ]; rfl
  clear hJ
  have sJ : SAME s J := ⟨J19, (tIJ.2.2 43 (by omega) (by omega) (by omega) (by omega)).trans a4.2.1, J52, (tIJ.2.2 56 (by omega) (by omega) (by omega) (by omega)).trans a4.2.2.2⟩
  have nJ : SNW s J := a5.tbl tIJ
  have tJ : TAB J := a1.2.2.2.1.tbl tIJ (fun γ hγ => by
    have e : deI J = deI I := by unfold deI; rw [J52, a4.2.2.1]
    rw [e]; exact (a1.2.2.2.1.2.2.2.2.2.2.1 γ hγ).2) (Or.inr J75)
  have tsJ : ¬ 0 ≤ J.i 18 → TS s J := fun q => (tsI (by rw [← J18]; exact q)).tbs (TBL.rf s) t7J.tbs rfl (Int.le_refl _) (by omega) (fun _ => J75)
  have cJ : cdI J = cdI I := tIJ.cd
  have tJA : TBL J A := tIJ.sy.tr tIA
  have A18 : A.i 18 = J.i 18 := by rw [iA, J18]; exact x1.2.2.1 18 (by omega) (by omega)
  have kA : KP t J A := (KP.rf t J).tbl tJA (fun q => by rw [A18]; exact q) (fun k h1 h2 j hj => by rw [aN k j (by omega), x1.1, aJ])
  have A38 : A.i 38 = J.i 38 := tJA.2.2 38 (by omega) (by omega) (by omega) (by omega)
  have A52 : A.i 52 = J.i 52 := by rw [mA.2.2.2.1.2.2.1, J52]
  have A64 : A.a 64 t = 12 := by rw [aA 64 (by decide) (by decide) (by decide), x1.1]; exact I64
  have A71 : A.a 71 t = s.i 38 := by rw [aA 71 (by decide) (by decide) (by decide), x1.1]; exact I71
  have A66' : (A.a 66 t).toInt = cdI A := by rw [A66]; show cdI M = cdI A; omega
  have cAd := mA.1.cd
  by_cases c : A.i 10 = 59
  · rw [if_pos c, p_em 2 1 (by omega) (by omega)]
    show ok ((if ib (I.i 63) 1000 then some ((EM A 2 1).setA 65 t 5) else none : Option RS).bind fun p => f_X12_parse_10 N m p) P
    rw [if_pos (tp_ib a2 (by omega))]
    show ok (f_X12_parse_10 N m ((EM A 2 1).setA 65 t 5)) P
    obtain ⟨v1, hv1⟩ : ∃ v1, v1 = (EM A 2 1).setA 65 t 5 := ⟨_, rfl⟩
    have mv : MF t s v1 := by
      rw [hv1]
      refine (mA.em hI ?_).loc _ (by omega) (by omega)
      unfold RATE at a6; omega
    have k1 : KP t A v1 := by rw [hv1]; exact ((KP.rf t A).em cAd.1 cAd.2.2).loc t _ (by omega) (by omega) (Nat.le_refl _)
    have cv1 : cdI v1 = cdI A + 1 := by rw [hv1]; exact EM.cd (u := A) (o := 2) (x := 1) cAd.1 cAd.2.2
    have e21 : v1.a 21 (cdI A).toNat = 2 := by rw [hv1, setA_nk (by decide), EM.a21, if_pos rfl]
    have e22 : v1.a 22 (cdI A).toNat = 1 := by rw [hv1, setA_nk (by decide), EM.a22, if_pos rfl]
    have e65 : v1.a 65 t = 5 := by rw [hv1]; exact setA_at
    have fv1 : fr v1 = fr A := by rw [hv1]; rfl
    have v38 : v1.i 38 = J.i 38 := by rw [hv1]; exact A38
    have lc : ∀ k : Nat, 64 ≤ k → k ≤ 72 → k ≠ 65 → v1.a k t = A.a k t := fun k h1 h2 h3 => by rw [hv1, setA_nk h3, EM.a (by omega) (by omega) (by omega)]
    rw [← hv1]
    clear hv1
    have z1 : z0 = 1 := by
      rcases hz0 with q | q
      · exact q.2
      · exact absurd (by rw [iA] at c; exact c) q.1
    obtain ⟨m', rfl⟩ : ∃ m', m = m' + 1 := ⟨m - 1, by omega⟩
    have push' : ((m' + 1 : Nat) : Int) = (m' : Int) + 1 := by omega
    rw [push'] at hn
    refine FO5 (m := m') (z := 1) hN hx hs hI hp h9 hb hcb hF kJ sJ nJ tJ J75 (by omega) tsJ (by omega) kA (by omega) A38 A52 (by omega) (fun _ q => absurd q (by decide)) (Or.inr ⟨rfl, cv1, e21, e22⟩) k1 (by omega) (by omega) (by omega) mv v38 ?_ e65 ?_ ?_ ?_ (by omega) (fun m2 u hu hf hm => hC m2 u hu (by omega) (by omega))
    · rw [lc 64 (by omega) (by omega) (by decide)]; exact A64
    · rw [lc 66 (by omega) (by omega) (by decide)]; exact A66'
    · rw [lc 71 (by omega) (by omega) (by decide)]; exact A71
    · rw [lc 72 (by omega) (by omega) (by decide), A72]; exact z1
  rw [if_neg c, p_th 4 20 tpA (by omega)]
  show ok (f_X12_parse_10 N m (TH A t 4 20)) P
  have oA : op A = op s + 1 := mA.2.2.2.2.2.2.2.2.1
  refine CALL (hc' (by omega)) mA.1 tpA (by omega) (by omega) (by omega) (by omega) (fun u hu => hF u (FS'.kp mA.2.2.1 hu)) (fun m2 v hv hm2 => ?_)
  have mV := mA.pc mA.go hv
  obtain ⟨w1, w2, w3, w4, w5, w6, w7, w8, w9, w10, w11, w12⟩ := hv
  have fw := w1.1.f0
  obtain ⟨m3, rfl⟩ : ∃ m3, m2 = m3 + 1 := ⟨m2 - 1, by omega⟩
  have push3 : ((m3 + 1 : Nat) : Int) = (m3 : Int) + 1 := by omega
  rw [push3] at hm2
  refine lp_12 w2 (by omega) w1.2.2.1 ((w12 64 (by omega) (by omega) (by omega)).trans A64) ?_
  unfold f_X12_fors f_X12_fors_255
  rw [if_pos (tp_ib w2 (by omega)), tp_nat w2, if_neg (by rw [w11]; decide), if_neg (by rw [w11]; decide), if_neg (by rw [w11]; decide), if_neg (by rw [w11]; decide), if_pos w11]
  have v69 : v.a 69 t = y := (w12 69 (by omega) (by omega) (by omega)).trans A69
  obtain ⟨z, ez, hz'⟩ := p_jt (N := N) (v := v) (v.a 69 t)
  rw [ez]
  have e71 : ((if z = 0 then (if ib (v.i 63) 1000 then some ((v.setA 72 t 0).setA 65 t 5) else none) else (if ib (v.i 63) 1000 then some ((v.setA 72 t 1).setA 65 t 5) else none)) : Option RS) = some ((v.setA 72 t z).setA 65 t 5) := by
    rw [if_pos (tp_ib w2 (by omega)), if_pos (tp_ib w2 (by omega))]
    rcases hz' with c | c
    · rw [if_pos c, c]
    · rw [if_neg (by rw [c.1]; decide), c.1]
  show ok (((if z = 0 then (if ib (v.i 63) 1000 then some ((v.setA 72 t 0).setA 65 t 5) else none) else (if ib (v.i 63) 1000 then some ((v.setA 72 t 1).setA 65 t 5) else none)) : Option RS).bind fun p => f_X12_parse_10 N m3 p) P
  rw [e71]
  show ok (f_X12_parse_10 N m3 ((v.setA 72 t z).setA 65 t 5)) P
  have hzz : z = 0 ∨ z = 1 ∧ cdI v = cdI A + 1 ∧ v.a 21 (cdI A).toNat = 2 ∧ v.a 22 (cdI A).toNat = 1 := by
    rcases hz' with c | ⟨c1, c2, c3⟩
    · exact Or.inl c
    · right
      rw [v69] at c2 c3
      rcases hy with h | ⟨h1, h2⟩
      · rw [h] at c2; exact absurd (by decide) c2
      · have e10 : A.i 10 = 432 := by rw [iA]; exact h1
        have e17 : v.i 17 = A.i 17 + 1 := by rw [c3, h2, iA]
        have tk : tkI v = tkI A + 1 := tk_add e17 ⟨mA.1.tk.1, by have := mA.1.tk; omega⟩
        exact ⟨c1, w10.2 e10 tk⟩
  obtain ⟨v1, hv1⟩ : ∃ v1, v1 = (v.setA 72 t z).setA 65 t 5 := ⟨_, rfl⟩
  have mv : MF t s v1 := by rw [hv1]; exact (mV.loc _ (by omega) (by omega)).loc _ (by omega) (by omega)
  have tv1 : TBL v v1 := by rw [hv1]; exact (TBL.loc v t _ (by omega) (by omega)).tr (TBL.loc _ t _ (by omega) (by omega))
  have k1 : KP t A v1 := by rw [hv1]; exact (w3.loc t _ (by omega) (by omega) (Nat.le_refl _)).loc t _ (by omega) (by omega) (Nat.le_refl _)
  have cv1 : cdI v1 = cdI v := tv1.cd
  have e65 : v1.a 65 t = 5 := by rw [hv1]; exact setA_at
  have e72 : v1.a 72 t = z := by rw [hv1, setA_nk (by decide)]; exact setA_at
  have fv1 : fr v1 = fr v := by rw [hv1]; rfl
  have v38 : v1.i 38 = v.i 38 := by rw [hv1]; rfl
  have v18 : v1.i 18 = v.i 18 := by rw [hv1]; rfl
  have lc : ∀ k : Nat, k ≠ 65 → k ≠ 72 → v1.a k = v.a k := fun k h1 h2 => by rw [hv1, setA_nk h1, setA_nk h2]
  rw [← hv1]
  clear hv1
  have le := w3.2.1.1
  obtain ⟨m', rfl⟩ : ∃ m', m3 = m' + 1 := ⟨m3 - 1, by omega⟩
  have push' : ((m' + 1 : Nat) : Int) = (m' : Int) + 1 := by omega
  rw [push'] at hm2
  refine FO5 (m := m') (z := z) hN hx hs hI hp h9 hb hcb hF kJ sJ nJ tJ J75 (by omega) tsJ (by omega) kA (by omega) A38 A52 (by omega) (fun q _ => (w9 (by rw [← v18]; exact q)).tbl (TBL.rf A) tv1 rfl rfl) ?_ k1 (by omega) (by omega) (by omega) mv ((v38.trans w5).trans A38) ?_ e65 ?_ ?_ e72 (by omega) (fun m4 u hu hf hm => hC m4 u hu (by omega) (by omega))
  · rcases hzz with q | ⟨q1, q2, q3, q4⟩
    · exact Or.inl q
    · exact Or.inr ⟨q1, by omega, by rw [lc 21 (by decide) (by decide)]; exact q3, by rw [lc 22 (by decide) (by decide)]; exact q4⟩
  · rw [lc 64 (by decide) (by decide), w12 64 (by omega) (by omega) (by omega)]; exact A64
  · rw [lc 66 (by decide) (by decide), w12 66 (by omega) (by omega) (by omega)]; exact A66'
  · rw [lc 71 (by decide) (by decide), w12 71 (by omega) (by omega) (by omega)]; exact A71
