/-! reading: throw; statements over any state that is like the one behind the step -/
def SKF (s u : RS) (t : Nat) (K : Int32) : Prop := LXI u ∧ (∀ j : Nat, j ≠ 20 → j ≠ 53 → u.i j = s.i j) ∧ TAB u ∧ KP t s u ∧ cdI u = cdI s + 1 ∧ u.a 21 (cdI s).toNat = 1 ∧ u.a 64 t = K ∧ u.a 65 t = 0 ∧ (∀ k : Nat, k ≠ 21 → k ≠ 22 → k ≠ 23 → k ≠ 64 → u.a k = s.a k)
theorem SK.f {s : RS} {t : Nat} (K : Int32) (hI : INV s) (hS : s.a 65 t = 0) : SKF s (SK s t K) t K := ⟨SK.lxi hI, fun j h1 h2 => SK.eI h1 h2, SK.tab hI, SK.kp hI, SK.cd hI, SK.a21, SK.a64, by rw [SK.a (by decide) (by decide) (by decide) (by decide)]; exact hS, fun k h1 h2 h3 h4 => SK.a h1 h2 h3 h4⟩
def RUNU (N b : Nat) (K : Int32) (T : Int32 → Prop) : Prop := ∀ (n : Nat) (s u : RS) (t : Nat) (P : RS → Prop), INV s → PRS s → tpI s = t → SKF s u t K → tpI u = t → u.i 15 = 0 → T (s.i 10) → ¬ s.i 10 = 0 → t < 998 → 2 * (t : Int) ≤ fr s + 12 * op s + 2 → 900 - fr s ≤ b → 36000 + 29 ≤ (n : Int) + 1 + 40 * fr s → 1 ≤ n → (∀ u, FS' s u → P u) → (∀ (m : Nat) (u : RS), PS t s u → fr s + 1 ≤ fr u → (n : Int) + 1 + 40 * fr s + 11 ≤ m + 40 * fr u → ok (f_X12_parse_10 N m u) P) → ok (f_X12_parse_10 N (n + 1) u) P
theorem RUNU.k {N b : Nat} {K : Int32} {T : Int32 → Prop} (h : RUNU N b K T) (hT0 : ∀ x, T x → ¬ x = 0) : RUNK N b K T := by
  intro n s t P hI hp ht hS hT hb hc hn hF hC
  have hf := hI.1.f0
  have hop := hI.op
  obtain ⟨n', rfl⟩ : ∃ n', n = n' + 1 := ⟨n - 1, by omega⟩
  have push : ((n' + 1 : Nat) : Int) = (n' : Int) + 1 := by omega
  rw [push] at hn hC
  exact h n' s (SK s t K) t P hI hp ht (SK.f K hI hS) ht hI.2.2.1 hT (hT0 _ hT) (by omega) hb hc hn (by omega) hF hC
theorem STA {N : Nat} (hN : 1000 ≤ N) {s u : RS} {t : Nat} {K : Int32} (hI : INV s) (ht : tpI s = t) (hz : ¬ s.i 10 = 0) (hu : SKF s u t K) : ∃ R, f_X12_next N u = some R ∧ MK t K s R ∧ LX u R := by
  obtain ⟨ul, ui, ut, uk, uc, u21, u64, u65, ua⟩ := hu
  obtain ⟨R, eR, x1, x2, x3, x4⟩ := p_nx hN ul
  obtain ⟨r15, rc⟩ := x4 ((ui 15 (by decide) (by decide)).trans hI.2.2.1)
  obtain ⟨c1, c2, c3⟩ := rc (fun z => hz ((ui 10 (by decide) (by decide)).symm.trans z))
  have fu : fr u = fr s := by unfold fr; rw [ui 11 (by decide) (by decide)]
  have u10 : u.i 10 = s.i 10 := ui 10 (by decide) (by decide)
  have hf := hI.1.f0
  have n12 := hI.tk
  have tk : tkI R = tkI s + 1 := tk_add (u := s) (c1.trans (congrArg (· + 1) (ui 17 (by decide) (by decide)))) ⟨n12.1, by omega⟩
  have kR : KP t s R := uk.lx x1
  have tR : TAB R := ut.lx x1
  have e := x1.tbl
  have ecd : cdI R = cdI s + 1 := e.cd.trans uc
  have rt : RATE s R := by
    have e2 : enI R = enI s := by rw [e.en]; unfold enI; rw [ui 24 (by decide) (by decide)]
    have e3 : trI R = trI s := by rw [e.tt]; unfold trI; rw [ui 29 (by decide) (by decide)]
    have e4 : caI R = caI s := by rw [e.ca]; unfold caI; rw [ui 33 (by decide) (by decide)]
    have e5 : slI R = slI s := by rw [e.sl]; unfold slI; rw [ui 42 (by decide) (by decide)]
    have e6 : peI R = peI s := by rw [e.pe]; unfold peI; rw [ui 59 (by decide) (by decide)]
    unfold RATE
    omega
  have ss : SAME s R := SAME.tr (show SAME s u from ⟨ui 19 (by decide) (by decide), ui 43 (by decide) (by decide), ui 52 (by decide) (by decide), ui 56 (by decide) (by decide)⟩) (x1.same x2)
  have e38 : R.i 38 = s.i 38 := x1.i38.trans (ui 38 (by decide) (by decide))
  have tp : tpI R = t := x1.tp.trans ((congrArg Int32.toInt (ui 63 (by decide) (by decide))).trans ht)
  exact ⟨R, eR, ⟨hI.mkS kR x1.2.2.2.1 r15 tR ss (SNW.eq e38 kR.2.2.2.2.2.1.2.1) rt (by omega) (by omega), tp, kR, ss, e38, rt, by omega, tk, ecd, by rw [x1.1]; exact u21, by rw [x1.1]; exact u64, by rw [x1.1]; exact u65, fun q => by have := c3 (Or.inl (by rw [u10]; exact q)); omega, fun k h1 h2 h3 h4 => by rw [x1.1]; exact ua k h1 h2 h3 h4⟩, x1⟩
/-- the frame is done -/
theorem PSM {t : Nat} {s R : RS} {x : Int32} (h9 : t < 1000) (hx : x = 0 ∨ x = 1) (a1 : INV R) (a2 : tpI R = t) (a3 : KP t s R) (a4 : SAME s R) (a5 : SNW s R) (a6 : RATE s R) (a7 : fr s ≤ fr R) (a8 : tkI s ≤ tkI R) (a9 : ¬ 0 ≤ R.i 18 → TS s (R.setI 75 x)) : PS t s ((R.setI 75 x).setI 63 (R.i 63 - 1)) := by
  refine ⟨(a1.i75 x hx).i63 _, tp_sub a2 h9, (a3.i75 x).i63 _, a4, a6, a5, a7, a8, fun z => ?_⟩
  exact (a9 z).tbs (TBL.rf s) (TBL.i63 (R.setI 75 x) _).tbs rfl (Int.le_refl _) (by have := a1.1.f0; omega) (fun q => q)
theorem e_thr {N : Nat} {u : RS} {t : Nat} (ht : tpI u = t) (h9 : t < 1000) (h0 : u.a 65 t = 0) : f_X12_throwing N u (u.i 63) = (f_X12_next N u).bind fun p3 => (if (p3.i 10) = 5 then (f_X12_can N p3 1).bind fun p6 => (if p6.1 = 0 then some p6.2 else f_X12_throwing_69 N p6.2 (u.i 63)) else (if (p3.i 10) = 2 then (f_X12_can N p3 1).bind fun p37 => (if p37.1 = 0 then some p37.2 else f_X12_throwing_69 N p37.2 (u.i 63)) else (f_X12_can N p3 0).bind fun p34 => (if p34.1 = 0 then some p34.2 else f_X12_throwing_69 N p34.2 (u.i 63)))) := by
  unfold f_X12_throwing
  rw [if_pos (tp_ib ht h9), tp_nat ht, if_neg (by rw [h0]; decide)]
theorem run_throw {N b : Nat} (hN : 1000 ≤ N) (hx : 1 ≤ b → RUNE N 16 4 11 24 (b - 1)) : RUNU N b 7 (fun x => x = 421) := by
  intro n s u t P hI hp ht hu tu u15 hT hz h9 hb hc hn n1 hF hC
  have hf := hI.1.f0
  have cs := hI.cd
  refine lp_7 tu (by omega) u15 hu.2.2.2.2.2.2.1 ?_
  rw [e_thr tu (by omega) hu.2.2.2.2.2.2.2.1]
  obtain ⟨R, eR, hR, xR⟩ := STA hN hI ht hz hu
  have mR := hR.mm
  obtain ⟨r1, r2, r3, r4, r5, r6, r7, r8, r9, r10, r11, r12, r13, r14⟩ := hR
  have r13 := r13 (by rw [hT]; decide)
  rw [eR]
  have ei : u.i 63 = R.i 63 := xR.i63.symm
  rw [ei]
  show ok ((if (R.i 10) = 5 then (f_X12_can N R 1).bind fun p6 => (if p6.1 = 0 then some p6.2 else f_X12_throwing_69 N p6.2 (R.i 63)) else (if (R.i 10) = 2 then (f_X12_can N R 1).bind fun p37 => (if p37.1 = 0 then some p37.2 else f_X12_throwing_69 N p37.2 (R.i 63)) else (f_X12_can N R 0).bind fun p34 => (if p34.1 = 0 then some p34.2 else f_X12_throwing_69 N p34.2 (R.i 63))) : Option RS).bind fun p => f_X12_parse_10 N n p) P
  have flt : ∀ S, LX R S → ¬ S.i 15 = 0 → FS' s S := fun S h1 h2 => FS'.of r3.1.1 h1 h2 r1.r
  have c1 : ∀ h6 : ¬ R.i 10 = 6, (((f_X12_can N R 1).bind fun p6 => (if p6.1 = 0 then some p6.2 else f_X12_throwing_69 N p6.2 (R.i 63))) : Option RS) = f_X12_throwing_69 N R (R.i 63) := fun h6 => by
    rw [can1 r1.2.2.1 h6]
    show (if (1 : Int32) = 0 then some R else f_X12_throwing_69 N R (R.i 63)) = _
    rw [if_neg (by decide)]
  have bad : ∀ w : Int32, ok (((f_X12_fail N R 3 w).bind fun p31 => some p31).bind fun p => f_X12_parse_10 N n p) P := fun w => by
    obtain ⟨S, eS, q1, q2, q3⟩ := p_fl (N := N) r1.1 3 w (by decide)
    rw [eS]
    exact lp_f q2 (hF S (flt S q1 q2)) n1
  by_cases c5 : R.i 10 = 5
  · rw [if_pos c5, c1 (by rw [c5]; decide)]
    unfold f_X12_throwing_69
    rw [if_pos c5]
    by_cases ck : R.i 14 < R.i 3
    · rw [if_pos ck, if_pos (tp_ib r2 (by omega)), tp_nat r2]
      have mL : MM t s (R.setA 66 t (R.i 14)) := mR.loc (k := 66) (R.i 14) (by omega) (by omega)
      obtain ⟨S, eS, y1, y2, y3, y4, y5, y6, y7⟩ := NX hN mL.1 (show ¬ R.i 10 = 0 by rw [c5]; decide)
      rw [eS]
      show ok (((f_X12_then N S 1 16).bind fun p29 => some p29).bind fun p => f_X12_parse_10 N n p) P
      have mS : MM t s S := mL.lx y4 y1 y3 y5 y6
      have y5 : fr R + 1 ≤ fr S := y5
      rw [p_th 1 16 mS.2.1 (by omega)]
      show ok (f_X12_parse_10 N n (TH S t 1 16)) P
      have fS := y4.1.f0
      have oS : op S = op s := mS.2.2.2.1.eOp
      refine CALL (hx (by omega)) y4 mS.2.1 (by omega) (by omega) (by omega) (by omega) (fun u hu => hF u (FS'.kp mS.2.2.1 hu)) (fun m2 v hv hm2 => ?_)
      have mV := mS.pc hv
      obtain ⟨v1, v2, v3, v4, v5, v6, v7, v8, v9, v10, v11, v12⟩ := hv
      have fv := v1.1.f0
      have cv := v1.cd
      obtain ⟨m3, rfl⟩ : ∃ m3, m2 = m3 + 1 := ⟨m2 - 1, by omega⟩
      have push2 : ((m3 + 1 : Nat) : Int) = (m3 : Int) + 1 := by omega
      rw [push2] at hm2
      have S64 : S.a 64 t = 7 := by rw [y1.1, setA_nk (by decide)]; exact r11
      have e66 : v.a 66 t = R.i 14 := by rw [v12 66 (by omega) (by omega) (by omega), y1.1]; exact setA_at
      refine lp_7 v2 (by omega) v1.2.2.1 (by rw [v12 64 (by omega) (by omega) (by omega)]; exact S64) ?_
      unfold f_X12_throwing
      rw [if_pos (tp_ib v2 (by omega)), tp_nat v2, if_pos v11, e66, p_em 19 (R.i 14) cv.1 cv.2.2]
      show ok (((f_X12_need N (EM v 19 (R.i 14)) 59).bind fun p25 => (f_X12_over N p25.2 0).bind fun p27 => some p27).bind fun p => f_X12_parse_10 N m3 p) P
      have eE := EM.cd (u := v) (o := 19) (x := R.i 14) cv.1 cv.2.2
      have ra := mV.2.2.2.2.2.1
      have cS : cdI S = cdI s + 1 := by rw [y1.tbl.cd]; exact r9
      have lt := v3.2.1.1
      have i3 : v.i 3 = R.i 3 := by rw [mV.2.2.1.1.1.1 3 (by omega), r3.1.1.1 3 (by omega)]
      refine END (x := 0) hN (by omega) hI (Or.inl rfl) (by omega) (MID.em mV hI (by unfold RATE at ra v6; omega) (fun z => ?_)) hF (fun W hW hfW => hC m3 W hW (by have hfW : fr v + 1 ≤ fr W := hfW; omega) (by have hfW : fr v + 1 ≤ fr W := hfW; omega))
      refine TS.e1 (o9 := 19) (x := R.i 14) (W := (EM v 19 (R.i 14)).setI 75 0) mS.2.2.1 (v9 z) v3 v1.tn (((KP.rf t v).em cv.1 cv.2.2).i75 0) (Int.le_refl _) cs.1 cS eE ?_ ?_ ?_ (by decide) mS.2.2.2.2.1 mS.2.2.2.1.2.2.1 mV.2.2.2.1.2.2.1 (by omega) v7 fv.2 (fun f C g h o lv rs hC' hg hy hi3 hE g1 g2 g3 ek2 => ?_)
      · show (EM v 19 (R.i 14)).a 21 (cdI s).toNat = 1
        rw [EM.a21, if_neg (by omega), v3.2.1.2.1 (cdI s).toNat (by omega), y1.1, setA_nk (by decide)]
        exact r10
      · show (EM v 19 (R.i 14)).a 21 (cdI v).toNat = 19
        rw [EM.a21, if_pos rfl]
      · show (EM v 19 (R.i 14)).a 22 (cdI v).toNat = R.i 14
        rw [EM.a22, if_pos rfl]
      · have hi3 : (v.i 3).toInt ≤ (f.i 3).toInt := hi3
        rw [i3] at hi3
        exact okJ_19 (c := (h + 1, o, lv, false, rs)) g1 ⟨by show 1 ≤ h + 1; omega, by rw [g2]; have := lt_int ck; omega⟩
    · rw [if_neg ck]
      exact bad _
  rw [if_neg c5]
  by_cases c2 : R.i 10 = 2
  · rw [if_pos c2, c1 (by rw [c2]; decide)]
    unfold f_X12_throwing_69
    rw [if_neg c5]
    have nse := r1.2.2.2.2.2.2.2.2.2.1
    have nsl := r1.2.2.2.2.2.2.2.2.2.2.1
    have rf := r1.1.f0
    obtain ⟨⟨p1, p2⟩, ep, e2, e3⟩ := p_sa hN R.l nse.1 (by omega)
    have e2 : p2 = R := e2
    subst e2
    rw [ep]
    show ok ((if p1 < 0 then f_X12_throwing_142 N p2 else if ib p1 460 then (if (p2.a 41 ((p1 : Int32).toNatClampNeg)) = 0 then f_X12_throwing_142 N p2 else (f_X12_emit N p2 21 (p2.a 40 ((p1 : Int32).toNatClampNeg))).bind fun p17 => (f_X12_next N p17.2).bind fun p19 => (f_X12_need N p19 59).bind fun p21 => (f_X12_over N p21.2 0).bind fun p23 => some p23) else none : Option RS).bind fun p => f_X12_parse_10 N n p) P
    by_cases cn : p1 < 0
    · rw [if_pos cn]
      exact bad _
    · rw [if_neg cn]
      rcases e3 with h | ⟨h1, h2⟩
      · have h : ¬ 0 ≤ p1 := h
        exact absurd (Int32.le_iff_toInt_le.mpr (by
          have : ¬ p1.toInt < (0 : Int32).toInt := fun z => cn (Int32.lt_iff_toInt_lt.mpr z)
          rw [z_t0] at this ⊢
          omega)) h
      · have h1 : 0 ≤ p1.toInt := h1
        have h2 : p1.toInt < seI p2 := h2
        rw [if_pos (show ib p1 460 from ⟨h1, by omega⟩)]
        by_cases c41 : p2.a 41 p1.toNatClampNeg = 0
        · rw [if_pos c41]
          exact bad _
        · have cR := r1.cd
          rw [if_neg c41, p_em 21 _ cR.1 cR.2.2]
          obtain ⟨S, eS, mS, xS, s1, s2, s3, s4⟩ := MM.emnx (o := 21) (x := p2.a 40 p1.toNatClampNeg) hN hI mR (by rw [c2]; decide) (by omega)
          show ok (((f_X12_next N (EM p2 21 (p2.a 40 p1.toNatClampNeg))).bind fun p19 => (f_X12_need N p19 59).bind fun p21 => (f_X12_over N p21.2 0).bind fun p23 => some p23).bind fun p => f_X12_parse_10 N n p) P
          rw [eS]
          show ok (((f_X12_need N S 59).bind fun p21 => (f_X12_over N p21.2 0).bind fun p23 => some p23).bind fun p => f_X12_parse_10 N n p) P
          refine END (x := 0) hN (by omega) hI (Or.inl rfl) n1 (MID.mm mS (fun z => ?_)) hF (fun W hW hfW => hC n W hW (by omega) (by omega))
          have ci := clampI h1
          have e40 : p2.a 40 = s.a 40 := r14 40 (by decide) (by decide) (by decide) (by decide)
          have e41 : p2.a 41 = s.a 41 := r14 41 (by decide) (by decide) (by decide) (by decide)
          have ese : seI p2 = seI s := by unfold seI; rw [r5]
          have tb := hI.2.2.2.1.2.2.2.2.1 p1.toNatClampNeg (by omega)
          have nsl' := hI.2.2.2.2.2.2.2.2.2.2.1
          refine TS.i1 (o9 := 21) (x := p2.a 40 p1.toNatClampNeg) (W := S.setI 75 0) cs.1 (by show cdI S = _; omega) ?_ ?_ ?_ (by decide) (fun f C g h o lv rs hC' hg hE g1 g2 ek => ?_)
          · show S.a 21 (cdI s).toNat = 1
            rw [xS.1, EM.a21, if_neg (by omega)]; exact r10
          · show S.a 21 (cdI s + 1).toNat = 21
            rw [xS.1, EM.a21, if_pos (by rw [r9])]
          · show S.a 22 (cdI s + 1).toNat = _
            rw [xS.1, EM.a22, if_pos (by rw [r9])]
          · have eg : (p2.a 40 p1.toNatClampNeg).toInt = gv s 40 p1.toNatClampNeg := by unfold gv; rw [e40]
            refine okJ_21 (c := (h, o, lv, false, rs)) g1 ⟨by rw [g2, eg]; exact ⟨tb.1, by have := tb.2.1; omega⟩, ?_⟩
            rw [g2, eg]
            exact (hE.1.2 p1.toNatClampNeg (by omega)).mpr (by rw [← e41]; exact c41)
  · rw [if_neg c2]
    obtain ⟨S, eS, q1, q2⟩ := can0 (N := N) r1.1 r1.2.2.1
    rw [eS]
    exact lp_f q2 (hF S (flt S q1 q2)) n1
