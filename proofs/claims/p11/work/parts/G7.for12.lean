/-! reading: for: what its head lays before the condition -/
theorem INV.se {u : RS} {n : Int64} (h : INV u) (hsl : 2 * (slI u + 1) ≤ fr u + 4) : INV (SE u n 0) := by
  have nse := h.2.2.2.2.2.2.2.2.2.1
  have nsl := h.2.2.2.2.2.2.2.2.2.2.1
  have hf := h.1.f0
  have e1 := SE.eSE (u := u) (n := n) (c := 0) nse.1 (by omega)
  have e2 := SE.eSL (u := u) (n := n) (c := 0) (by omega) (by omega)
  obtain ⟨b1, b2, b3, b4, b5, b6, b7, b8, b9, b10, b11, b12⟩ := h.2.2.2.2
  refine ⟨h.1, RB.of rfl rfl rfl rfl rfl h.2.1, h.2.2.1, h.2.2.2.1.se0 nse.1 (by omega) (by omega) (by omega), b1, b2, b3, b4, b5, ⟨by rw [e1]; omega, by rw [e1, e2]; omega⟩, ?_, b8, b9, b10, b11, b12⟩
  rw [e2]
  exact hsl
theorem MF.se {t : Nat} {s u : RS} {n : Int64} (h : MF t s u) (hI : INV s) (hsl : 2 * (slI u + 1 - slI s) ≤ fr u - fr s) : MF t s (SE u n 0) := by
  obtain ⟨a1, a2, a3, a4, a5, a6, a7, a8, a9, a10⟩ := h
  have nse := a1.2.2.2.2.2.2.2.2.2.1
  have nsl := a1.2.2.2.2.2.2.2.2.2.2.1
  have mse := hI.2.2.2.2.2.2.2.2.2.1
  have msl := hI.2.2.2.2.2.2.2.2.2.2.1
  have hf := a1.1.f0
  have ksl := a3.2.2.2.2.2.1.2.1
  have e2 := SE.eSL (u := u) (n := n) (c := 0) (by omega) (by omega)
  refine ⟨a1.se (by omega), a2, a3.se mse.1 (by omega) (by omega) (by omega), a4, a5.se nse.1 (by omega) (by omega) (by omega) ksl, ?_, a7, a8, a9, a10⟩
  have g1 : cdI (SE u n 0) = cdI u := rfl
  have g2 : enI (SE u n 0) = enI u := rfl
  have g3 : trI (SE u n 0) = trI u := rfl
  have g4 : caI (SE u n 0) = caI u := rfl
  have g6 : peI (SE u n 0) = peI u := rfl
  have g7 : fr (SE u n 0) = fr u := rfl
  have g8 : tkI (SE u n 0) = tkI u := rfl
  unfold RATE at *
  rw [g1, g2, g3, g4, e2, g6, g7, g8]
  omega
/-- a name is told, a value laid under it -/
theorem TS.tel {t : Nat} {s w v q W : RS} (hI : INV s) (kw : KP t s w) (w38 : w.i 38 = s.i 38) (w52 : w.i 52 = s.i 52) (fw : fr s ≤ fr w) (cw : cdI w = cdI s + 1) (w21 : w.a 21 (cdI s).toNat = 1) (te : TE w v) (k2 : KP t w v) (i2 : INV v) (v52 : v.i 52 = s.i 52) (f2 : fr w + 1 ≤ fr v) (qi : ∀ j : Nat, j ≠ 38 → j ≠ 42 → q.i j = v.i j) (qa : ∀ k : Nat, k ≠ 40 → k ≠ 41 → q.a k = v.a k) (qsl : slI q = slI v + 1) (hW : TBL (EM q 5 (v.i 42)) W) (kW : KP t v W) (W75 : W.i 75 = 1) : TS s W := by
  have cs := hI.cd
  have cv := i2.cd
  have fv := i2.1.f0
  have lt := k2.2.1.1
  have nsl := i2.2.2.2.2.2.2.2.2.2.2.1
  have nse := i2.2.2.2.2.2.2.2.2.2.1
  have ksl := (kw.tr k2 (Nat.le_refl _)).2.2.2.2.2.1.2.1
  have cq : cdI q = cdI v := by unfold cdI; rw [qi 20 (by decide) (by decide)]
  have eem : cdI (EM q 5 (v.i 42)) = cdI v + 1 := by rw [← cq]; exact EM.cd (u := q) (by omega) (by omega)
  have cW : cdI W = cdI v + 1 := hW.cd.trans eem
  have gW : goI W ≤ goI v := by
    rw [hW.go]
    show goI q ≤ goI v
    unfold goI
    rw [qi 43 (by decide) (by decide)]
    exact Int.le_refl _
  have W21 : W.a 21 = (EM q 5 (v.i 42)).a 21 := hW.1 21 (by omega)
  have W22 : W.a 22 = (EM q 5 (v.i 42)).a 22 := hW.1 22 (by omega)
  have slW : slI W = slI q := hW.sl
  have caW : caI W = caI q := hW.ca
  refine TS.e1 (o9 := 5) (x := v.i 42) kw te k2 i2.tn kW gW cs.1 cw cW ?_ ?_ ?_ (by decide) w38 w52 v52 fw f2 fv.2 (fun f C g h o lv rs hC' hg hy _ hE g1 g2 g3 ek2 => ?_)
  · rw [W21, EM.a21, if_neg (by omega), qa 21 (by decide) (by decide), k2.2.1.2.1 (cdI s).toNat (by omega)]
    exact w21
  · rw [W21, EM.a21, if_pos (by rw [cq])]
  · rw [W22, EM.a22, if_pos (by rw [cq])]
  · have hF' : FL f g lv (((cdI v).toNat : Int) + 1) (((cdI v).toNat : Int) + 1) h o rs := by
      rw [ek2]; exact hE.2.1 W75
    have hsl : gv f 22 (cdI v).toNat = slI v := g2
    refine okJ_5 (c := (h + 1, o, lv, false, rs)) g1 ⟨by rw [hsl]; exact ⟨by omega, by omega⟩, ?_, by show 1 ≤ h + 1; omega, hF'⟩
    rw [hsl, hg]
    have es : ((slI v).toNat : Int) = slI v := Int.toNat_of_nonneg (by omega)
    have := hC' (slI v).toNat (by omega) (by omega)
    cases hq : C (slI v).toNat with
    | false => rfl
    | true =>
      obtain ⟨j, j1, j2, j3⟩ := this.mp hq
      rw [hW.g (by decide)] at j3
      have j3 : gv q 36 j = ((slI v).toNat : Int) := j3
      have e36 : gv q 36 j = gv v 36 j := by unfold gv; rw [qa 36 (by decide) (by decide)]
      have ecq : caI q = caI v := by unfold caI; rw [qi 33 (by decide) (by decide)]
      have := (i2.2.2.2.1.2.2.2.2.2.1 j (by omega)).2
      omega
/-- behind the sign: x = e -/
theorem FO2 {N b : Nat} (hN : 4000 ≤ N) (hc' : 1 ≤ b → RUNE N 20 1 20 15 (b - 1)) (hx : 1 ≤ b → RUNE N 16 4 11 24 (b - 1)) (hs : 1 ≤ b → RUNS N (b - 1)) {n : Nat} {s w : RS} {t : Nat} {P : RS → Prop} {x : Int32} (hI : INV s) (hp : PRS s) (h9 : t < 998) (hb : 2 * (t : Int) ≤ fr s + 12 * op s + 2) (hcb : 900 - fr s ≤ b) (hF : ∀ u, FS' s u → P u) (mW : MF t s w) (w38 : w.i 38 = s.i 38) (cw : cdI w = cdI s + 1) (w21 : w.a 21 (cdI s).toNat = 1) (fw : fr s + 3 ≤ fr w) (w64 : w.a 64 t = 12) (w66 : w.a 66 t = x) (hxs : SLT s x) (w71 : w.a 71 t = s.i 38) (hn : 36000 + 29 ≤ (n : Int) + 1 + 40 * fr s) (hC : ∀ (m : Nat) (u : RS), PS t s u → fr s + 1 ≤ fr u → (n : Int) + 1 + 40 * fr s + 11 ≤ m + 40 * fr u → ok (f_X12_parse_10 N m u) P) : ok (f_X12_parse_10 N n (TH w t 2 16)) P := by
  have fwf := mW.1.1.f0
  have ow : op w = op s + 1 := mW.2.2.2.2.2.2.2.2.1
  refine CALL (hx (by omega)) mW.1 mW.2.1 (by omega) (by omega) (by omega) (by omega) (fun u hu => hF u (FS'.kp mW.2.2.1 hu)) (fun m2 v hv hm2 => ?_)
  have mV := mW.pc mW.go hv
  obtain ⟨v1, v2, v3, v4, v5, v6, v7, v8, v9, v10, v11, v12⟩ := hv
  have fv := v1.1.f0
  have cv := v1.cd
  have cs := hI.cd
  obtain ⟨m3, rfl⟩ : ∃ m3, m2 = m3 + 1 := ⟨m2 - 1, by omega⟩
  have push2 : ((m3 + 1 : Nat) : Int) = (m3 : Int) + 1 := by omega
  rw [push2] at hm2
  refine lp_12 v2 (by omega) v1.2.2.1 ((v12 64 (by omega) (by omega) (by omega)).trans w64) ?_
  have e66 : v.a 66 t = x := (v12 66 (by omega) (by omega) (by omega)).trans w66
  unfold f_X12_fors
  rw [if_pos (tp_ib v2 (by omega)), tp_nat v2, if_neg (by rw [v11]; decide), if_neg (by rw [v11]; decide), if_pos v11, e66, p_em 5 x cv.1 cv.2.2]
  show ok (f_X12_parse_10 N m3 ((EM v 5 x).setA 65 t 3)) P
  obtain ⟨I, hII⟩ : ∃ I, I = (EM v 5 x).setA 65 t 3 := ⟨_, rfl⟩
  have ra := mV.2.2.2.2.2.1
  have mI : MF t s I := by
    rw [hII]
    refine (mV.em hI ?_).loc _ (by omega) (by omega)
    unfold RATE at v6; omega
  have kI : KP t v (I.setI 75 1) := by rw [hII]; exact ((((KP.rf t v).em cv.1 cv.2.2).loc t _ (by omega) (by omega) (Nat.le_refl _))).i75 1
  have cI : cdI (I.setI 75 1) = cdI v + 1 := by rw [hII]; exact EM.cd (u := v) (o := 5) (x := x) cv.1 cv.2.2
  have gI : goI (I.setI 75 1) = goI v := by rw [hII]; rfl
  have I21 : ∀ j : Nat, I.a 21 j = if j = (cdI v).toNat then 5 else v.a 21 j := fun j => by rw [hII, setA_nk (by decide)]; exact EM.a21 j
  have I22 : I.a 22 (cdI v).toNat = x := by rw [hII, setA_nk (by decide), EM.a22, if_pos rfl]
  have I65 : I.a 65 t = 3 := by rw [hII]; exact setA_at
  have lI : ∀ k : Nat, 64 ≤ k → k ≤ 73 → k ≠ 65 → I.a k t = v.a k t := fun k h1 h2 h3 => by rw [hII, setA_nk h3, EM.a (by omega) (by omega) (by omega)]
  have fI : fr I = fr v := by rw [hII]; rfl
  have I18 : I.i 18 = v.i 18 := by rw [hII]; rfl
  rw [← hII]
  clear hII
  obtain ⟨m', rfl⟩ : ∃ m', m3 = m' + 1 := ⟨m3 - 1, by omega⟩
  have push' : ((m' + 1 : Nat) : Int) = (m' : Int) + 1 := by omega
  rw [push'] at hm2
  have lt := v3.2.1.1
  obtain ⟨h1, h2⟩ := hxs.ok hI
  refine FO3 (m := m') hN hc' hx hs hI hp h9 hb hcb hF mI (fun z => ?_) ?_ I65 ?_ (by omega) (by omega) (fun m4 u hu hf hm => hC m4 u hu (by omega) (by omega))
  · refine TS.e1 (o9 := 5) (x := x) (W := I.setI 75 1) mW.2.2.1 (v9 (by rw [← I18]; exact z)) v3 v1.tn kI (by omega) cs.1 cw cI ?_ ?_ I22 (by decide) w38 mW.2.2.2.1.2.2.1 mV.2.2.2.1.2.2.1 (by omega) v7 fv.2 (fun f C g h o lv rs hC' hg hy _ hE g1 g2 g3 ek2 => ?_)
    · show I.a 21 (cdI s).toNat = 1
      rw [I21, if_neg (by omega), v3.2.1.2.1 (cdI s).toNat (by omega)]
      exact w21
    · show I.a 21 (cdI v).toNat = 5
      rw [I21, if_pos rfl]
    · have hF' : FL f g lv (((cdI v).toNat : Int) + 1) (((cdI v).toNat : Int) + 1) h o rs := by
        rw [ek2]; exact hE.2.1 rfl
      exact okJ_5 (c := (h + 1, o, lv, false, rs)) g1 ⟨by rw [g2]; exact h1, by rw [g2]; exact h2 g hE.1.2, by show 1 ≤ h + 1; omega, hF'⟩
  · rw [lI 64 (by omega) (by omega) (by decide), v12 64 (by omega) (by omega) (by omega)]; exact w64
  · rw [lI 71 (by omega) (by omega) (by decide), v12 71 (by omega) (by omega) (by omega)]; exact w71
/-- behind the sign: int x = e -/
theorem FO1 {N b : Nat} (hN : 4000 ≤ N) (hc' : 1 ≤ b → RUNE N 20 1 20 15 (b - 1)) (hx : 1 ≤ b → RUNE N 16 4 11 24 (b - 1)) (hs : 1 ≤ b → RUNS N (b - 1)) {n : Nat} {s w : RS} {t : Nat} {P : RS → Prop} (hI : INV s) (hp : PRS s) (h9 : t < 998) (hb : 2 * (t : Int) ≤ fr s + 12 * op s + 2) (hcb : 900 - fr s ≤ b) (hF : ∀ u, FS' s u → P u) (mW : MF t s w) (w38 : w.i 38 = s.i 38) (w42 : slI w = slI s) (cw : cdI w = cdI s + 1) (w21 : w.a 21 (cdI s).toNat = 1) (fw : fr s + 3 ≤ fr w) (w64 : w.a 64 t = 12) (w71 : w.a 71 t = s.i 38) (hn : 36000 + 29 ≤ (n : Int) + 1 + 40 * fr s) (hC : ∀ (m : Nat) (u : RS), PS t s u → fr s + 1 ≤ fr u → (n : Int) + 1 + 40 * fr s + 11 ≤ m + 40 * fr u → ok (f_X12_parse_10 N m u) P) : ok (f_X12_parse_10 N n (TH w t 1 16)) P := by
  have fwf := mW.1.1.f0
  have ow : op w = op s + 1 := mW.2.2.2.2.2.2.2.2.1
  refine CALL (hx (by omega)) mW.1 mW.2.1 (by omega) (by omega) (by omega) (by omega) (fun u hu => hF u (FS'.kp mW.2.2.1 hu)) (fun m2 v hv hm2 => ?_)
  have mV := mW.pc mW.go hv
  obtain ⟨v1, v2, v3, v4, v5, v6, v7, v8, v9, v10, v11, v12⟩ := hv
  have fv := v1.1.f0
  have cv := v1.cd
  have cs := hI.cd
  have nse := v1.2.2.2.2.2.2.2.2.2.1
  have nsl := v1.2.2.2.2.2.2.2.2.2.2.1
  obtain ⟨m3, rfl⟩ : ∃ m3, m2 = m3 + 1 := ⟨m2 - 1, by omega⟩
  have push2 : ((m3 + 1 : Nat) : Int) = (m3 : Int) + 1 := by omega
  rw [push2] at hm2
  refine lp_12 v2 (by omega) v1.2.2.1 ((v12 64 (by omega) (by omega) (by omega)).trans w64) ?_
  unfold f_X12_fors
  rw [if_pos (tp_ib v2 (by omega)), tp_nat v2, if_neg (by rw [v11]; decide), if_pos v11, p_se (N := N) (u := v) (v.b 74 t) (Or.inl rfl) nse.1 (by omega)]
  obtain ⟨q, hq⟩ : ∃ q, q = SE v (v.b 74 t) 0 := ⟨_, rfl⟩
  have mq : MF t s q := by
    rw [hq]
    refine mV.se hI ?_
    unfold RATE at v6; omega
  have qi : ∀ j : Nat, j ≠ 38 → j ≠ 42 → q.i j = v.i j := fun j h1 h2 => by rw [hq]; exact SE.eI h1 h2
  have qa : ∀ k : Nat, k ≠ 40 → k ≠ 41 → q.a k = v.a k := fun k h1 h2 => by rw [hq]; exact SE.eA h1 h2
  have qsl : slI q = slI v + 1 := by rw [hq]; exact SE.eSL (by omega) (by omega)
  have qk : KP t v q := by rw [hq]; exact (KP.rf t v).se nse.1 (by omega) (by omega) (by omega)
  show ok (((f_X12_emit N (SE v (v.b 74 t) 0) 5 (v.i 42)).bind fun p12 => some (RS.setA p12.2 65 t 3)).bind fun p => f_X12_parse_10 N m3 p) P
  rw [← hq]
  clear hq
  have cq : cdI q = cdI v := by unfold cdI; rw [qi 20 (by decide) (by decide)]
  have fq : fr q = fr v := by unfold fr; rw [qi 11 (by decide) (by decide)]
  rw [p_em 5 (v.i 42) (by omega) (by omega)]
  show ok (f_X12_parse_10 N m3 ((EM q 5 (v.i 42)).setA 65 t 3)) P
  obtain ⟨I, hII⟩ : ∃ I, I = (EM q 5 (v.i 42)).setA 65 t 3 := ⟨_, rfl⟩
  have ra := mV.2.2.2.2.2.1
  have mI : MF t s I := by
    rw [hII]
    refine (mq.em hI ?_).loc _ (by omega) (by omega)
    unfold RATE at v6; omega
  have kI : KP t v (I.setI 75 1) := by rw [hII]; exact (((qk.em cv.1 (by omega)).loc t _ (by omega) (by omega) (Nat.le_refl _))).i75 1
  have tI : TBL (EM q 5 (v.i 42)) (I.setI 75 1) := by rw [hII]; exact (TBL.loc _ t _ (by omega) (by omega)).tr (TBL.i75 _ _)
  have I65 : I.a 65 t = 3 := by rw [hII]; exact setA_at
  have lI : ∀ k : Nat, 64 ≤ k → k ≤ 73 → k ≠ 65 → I.a k t = q.a k t := fun k h1 h2 h3 => by rw [hII, setA_nk h3, EM.a (by omega) (by omega) (by omega)]
  have fI : fr I = fr q := by rw [hII]; rfl
  have I18 : I.i 18 = q.i 18 := by rw [hII]; rfl
  rw [← hII]
  clear hII
  obtain ⟨m', rfl⟩ : ∃ m', m3 = m' + 1 := ⟨m3 - 1, by omega⟩
  have push' : ((m' + 1 : Nat) : Int) = (m' : Int) + 1 := by omega
  rw [push'] at hm2
  refine FO3 (m := m') hN hc' hx hs hI hp h9 hb hcb hF mI (fun z => ?_) ?_ I65 ?_ (by omega) (by omega) (fun m4 u hu hf hm => hC m4 u hu (by omega) (by omega))
  · exact TS.tel hI mW.2.2.1 w38 mW.2.2.2.1.2.2.1 (by omega) cw w21 (v9 (by rw [← qi 18 (by decide) (by decide), ← I18]; exact z)) v3 v1 mV.2.2.2.1.2.2.1 v7 qi qa qsl tI kI rfl
  · rw [lI 64 (by omega) (by omega) (by decide), qa 64 (by decide) (by decide), v12 64 (by omega) (by omega) (by omega)]; exact w64
  · rw [lI 71 (by omega) (by omega) (by decide), qa 71 (by decide) (by decide), v12 71 (by omega) (by omega) (by omega)]; exact w71
