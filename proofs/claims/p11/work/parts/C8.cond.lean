/-! reading: relations, and, or -/
theorem e_one0 {N : Nat} {s : RS} {t : Nat} (ht : tpI s = t) (h9 : t < 1000) (h0 : s.a 65 t = 0) : f_X12_one N s (s.i 63) = (if (s.i 10) = 33 then (f_X12_opens N s).bind fun p20 => (if p20.1 = 0 then some p20.2 else (f_X12_next N p20.2).bind fun p23 => (f_X12_then N p23 1 22).bind fun p25 => some p25) else (if (s.i 10) = 91 then (f_X12_open N s 91).bind fun p16 => (f_X12_then N p16.2 2 20).bind fun p18 => some p18 else (if (s.i 10) = 432 then f_X12_one_112 N s else (if (s.i 10) = 433 then f_X12_one_112 N s else (f_X12_then N s 3 16).bind fun p14 => some p14)))) := by
  unfold f_X12_one
  rw [if_pos (tp_ib ht h9), tp_nat ht, if_pos h0]
theorem e_one1 {N : Nat} {v : RS} {t : Nat} (ht : tpI v = t) (h9 : t < 1000) (h0 : v.a 65 t = 1) (c0 : 0 ≤ cdI v) (c3 : cdI v < 3000) : f_X12_one N v (v.i 63) = some ((EM (v.setI 19 (v.i 19 - 1)) 10 0).setI 63 (v.i 63 - 1)) := by
  unfold f_X12_one
  rw [if_pos (tp_ib ht h9), tp_nat ht, if_neg (by rw [h0]; decide), if_pos h0, p_em (u := v.setI 19 (v.i 19 - 1)) 10 0 c0 c3]
  rfl
theorem e_one2 {N : Nat} {v : RS} {t : Nat} (ht : tpI v = t) (h9 : t < 1000) (h0 : v.a 65 t = 2) : f_X12_one N v (v.i 63) = (f_X12_shut N v 93).bind fun p60 => some (RS.setI p60.2 63 ((p60.2.i 63) - 1)) := by
  unfold f_X12_one
  rw [if_pos (tp_ib ht h9), tp_nat ht, if_neg (by rw [h0]; decide), if_neg (by rw [h0]; decide), if_pos h0]
theorem e_one4 {N : Nat} {v : RS} {t : Nat} (ht : tpI v = t) (h9 : t < 1000) (h0 : v.a 65 t = 4) (c0 : 0 ≤ cdI v) (c3 : cdI v < 3000) : f_X12_one N v (v.i 63) = some ((EM v 9 (v.a 66 t)).setI 63 (v.i 63 - 1)) := by
  unfold f_X12_one
  rw [if_pos (tp_ib ht h9), tp_nat ht, if_neg (by rw [h0]; decide), if_neg (by rw [h0]; decide), if_neg (by rw [h0]; decide), if_neg (by rw [h0]; decide), p_em 9 _ c0 c3]
  rfl
theorem e_one3 {N : Nat} {s : RS} {t : Nat} (hI : INV s) (ht : tpI s = t) (h9 : t < 1000) (h0 : s.a 65 t = 3) : ((¬ s.i 10 = 0 ∧ f_X12_one N s (s.i 63) = f_X12_one_281 N s (s.i 63)) ∨ ∃ R, f_X12_one N s (s.i 63) = some R ∧ LX s R ∧ ¬ R.i 15 = 0) := by
  obtain ⟨R, eR, h1, h2⟩ := can0 (N := N) hI.1 hI.2.2.1
  have z : ∀ (h6 : ¬ s.i 10 = 6), (((f_X12_can N s 1).bind fun p5 => (if p5.1 = 0 then some p5.2 else f_X12_one_281 N p5.2 (s.i 63))) : Option RS) = f_X12_one_281 N s (s.i 63) := fun h6 => by
    rw [can1 hI.2.2.1 h6]
    show (if (1 : Int32) = 0 then some s else f_X12_one_281 N s (s.i 63)) = _
    rw [if_neg (by decide)]
  unfold f_X12_one
  rw [if_pos (tp_ib ht h9), tp_nat ht, if_neg (by rw [h0]; decide), if_neg (by rw [h0]; decide), if_neg (by rw [h0]; decide), if_pos h0]
  by_cases c1 : s.i 10 = 60
  · rw [if_pos c1, z (by rw [c1]; decide)]; exact Or.inl ⟨by rw [c1]; decide, rfl⟩
  rw [if_neg c1]
  by_cases c2 : s.i 10 = 300
  · rw [if_pos c2, z (by rw [c2]; decide)]; exact Or.inl ⟨by rw [c2]; decide, rfl⟩
  rw [if_neg c2]
  by_cases c3 : s.i 10 = 62
  · rw [if_pos c3, z (by rw [c3]; decide)]; exact Or.inl ⟨by rw [c3]; decide, rfl⟩
  rw [if_neg c3]
  by_cases c4 : s.i 10 = 301
  · rw [if_pos c4, z (by rw [c4]; decide)]; exact Or.inl ⟨by rw [c4]; decide, rfl⟩
  rw [if_neg c4]
  by_cases c5 : s.i 10 = 302
  · rw [if_pos c5, z (by rw [c5]; decide)]; exact Or.inl ⟨by rw [c5]; decide, rfl⟩
  rw [if_neg c5]
  by_cases c6 : s.i 10 = 303
  · rw [if_pos c6, z (by rw [c6]; decide)]; exact Or.inl ⟨by rw [c6]; decide, rfl⟩
  rw [if_neg c6, eR]
  exact Or.inr ⟨R, rfl, h1, h2⟩
theorem run_one {N b : Nat} (hN : 1000 ≤ N) (h1' : 1 ≤ b → RUNE N 22 3 14 21 (b - 1)) (hc' : 1 ≤ b → RUNE N 20 1 20 15 (b - 1)) (hx : RUNE N 16 4 11 24 b) : RUNE N 22 3 14 21 b := by
  intro n s t P hI ht hK hS hb hc hn hF hC
  have hf := hI.1.f0
  have hop := hI.op
  have cs := hI.cd
  have h9 : t < 998 := by omega
  obtain ⟨n', rfl⟩ : ∃ n', n = n' + 1 := ⟨n - 1, by omega⟩
  have push : ((n' + 1 : Nat) : Int) = (n' : Int) + 1 := by omega
  rw [push] at hn hC
  have n1 : 1 ≤ n' := by omega
  refine lp_22 ht (by omega) hI.2.2.1 hK ?_
  have flt : ∀ R, LX s R → ¬ R.i 15 = 0 → FS' s R := fun R h1 h2 => FS'.of (K1.rf s) h1 h2 hI.r
  rw [e_one0 ht (by omega) hS]
  by_cases c33 : s.i 10 = 33
  · rw [if_pos c33]
    obtain ⟨p, ep, q1, q2, q3⟩ := p_os (N := N) hI.1
    rw [ep]
    show ok ((if p.1 = 0 then _ else _ : Option RS).bind fun p => f_X12_parse_10 N n' p) P
    rcases q2 with ⟨q2, q4⟩ | ⟨q2, q4⟩
    · rw [if_pos q2]
      exact lp_f q4 (hF _ (flt _ q1 q4)) n1
    · rw [if_neg (by rw [q2]; decide)]
      obtain ⟨q5, q6, q7⟩ := q3 q4
      obtain ⟨R, eR, r1, r2, r3, r4, r5, r6, r7, r8, r9, r10⟩ := OPE (t := t) hN hI (by rw [c33]; decide) q6
      rw [q7, eR]
      show ok (((f_X12_then N R 1 22).bind fun p => some p).bind fun p => f_X12_parse_10 N n' p) P
      rw [p_th 1 22 (r2.trans ht) (by omega)]
      show ok (f_X12_parse_10 N n' (TH R t 1 22)) P
      have rf := r1.1.f0
      refine CALL (h1' (by omega)) r1 (r2.trans ht) (by omega) (by omega) (by omega) (by omega) (fun u hu => hF u (FS'.kp r3 hu)) (fun m2 v hv hm2 => ?_)
      have hv' := hv
      obtain ⟨v1, v2, v3, v4, v5, v6, v7, v8, v9, v10, v11, v12⟩ := hv'
      have fv := v1.1.f0
      obtain ⟨m3, rfl⟩ : ∃ m3, m2 = m3 + 1 := ⟨m2 - 1, by omega⟩
      have cv := v1.cd
      refine lp_22 v2 (by omega) v1.2.2.1 (by rw [v12 64 (by omega) (by omega) (by omega), r10]; exact hK) ?_
      rw [e_one1 v2 (by omega) v11 cv.1 cv.2.2]
      have hw := PM.una (o9 := 10) hI r3 r4 r5 r7 r8 r9 hv (Or.inr rfl)
      exact hC m3 _ (hw.pop (by omega)) (by show (n' : Int) + 1 + 40 * fr s + 21 ≤ m3 + 40 * fr v; omega)
  rw [if_neg c33]
  by_cases c91 : s.i 10 = 91
  · rw [if_pos c91]
    obtain ⟨p, ep, hp⟩ := OPO (t := t) hN hI 91 (by decide)
    rw [ep]
    show ok (((f_X12_then N p.2 2 20).bind fun p => some p).bind fun p => f_X12_parse_10 N n' p) P
    rcases hp with ⟨p1, p2, p3⟩ | ⟨p1, p2, p3, r1, r2, r3, r4, r5, r6, r7, r8, r9, r10, r11⟩
    · rw [p_th 2 20 (p2.tp.trans ht) (by omega)]
      exact lp_f (u := TH p.2 t 2 20) p1 (hF _ (FS'.th (flt _ p2 p1))) n1
    · rw [p_th 2 20 (r2.trans ht) (by omega)]
      show ok (f_X12_parse_10 N n' (TH p.2 t 2 20)) P
      have rf := r1.1.f0
      refine CALL (hc' (by omega)) r1 (r2.trans ht) (by omega) (by omega) (by omega) (by omega) (fun u hu => hF u (FS'.kp r3 hu)) (fun m2 v hv hm2 => ?_)
      have hv' := hv
      obtain ⟨v1, v2, v3, v4, v5, v6, v7, v8, v9, v10, v11, v12⟩ := hv'
      have fv := v1.1.f0
      obtain ⟨m3, rfl⟩ : ∃ m3, m2 = m3 + 1 := ⟨m2 - 1, by omega⟩
      refine lp_22 v2 (by omega) v1.2.2.1 (by rw [v12 64 (by omega) (by omega) (by omega), r10]; exact hK) ?_
      rw [e_one2 v2 (by omega) v11]
      obtain ⟨w, ew, x1, x2⟩ := SHO hN v1 93 (by decide)
      rw [ew]
      show ok (f_X12_parse_10 N m3 (w.2.setI 63 (w.2.i 63 - 1))) P
      rcases x2 with x2 | ⟨x2, x3, x4, x5, x6⟩
      · exact lp_f (u := w.2.setI 63 (w.2.i 63 - 1)) x2 (hF _ ((FS'.of (r3.tr v3 (Nat.le_refl _)).1.1 x1 x2 v1.r).i63 _)) (by omega)
      · have hw := PM.par hI r3 r4 r5 r7 r8 r9 hv x1 x2 x4 x5 x6
        exact hC m3 _ (hw.pop (by omega)) (by show (n' : Int) + 1 + 40 * fr s + 21 ≤ m3 + 40 * fr w.2; omega)
  rw [if_neg c91]
  have lit : ∀ x : Int32, (¬ s.i 10 = 0) → (s.i 10 = 432 → x = 1) → ok (((f_X12_emit N s 2 x).bind fun p => f_X12_one_133 N p.2).bind fun p => f_X12_parse_10 N n' p) P := fun x hz hx => by
    rw [p_em 2 x cs.1 cs.2.2]
    obtain ⟨R, eR, hR⟩ := PM.em1 (N := N) (o9 := 2) (x := x) hN hI ht hz (fun R r1 r2 r3 => TE.i1 (t := t) cs.1 r1 r2 r3 (by decide) (fun f g h o v rs g1 g2 g3 g4 => okJ_2 (c := (h, o, v, false, rs)) g1 g4.fp)) (fun q => ⟨rfl, hx q⟩)
    show ok (((f_X12_next N (EM s 2 x)).bind fun p39 => some (RS.setI p39 63 ((p39.i 63) - 1))).bind fun p => f_X12_parse_10 N n' p) P
    rw [eR]
    have := hR.2.2.2.2.2.2.1
    exact hC n' _ (hR.pop (by omega)) (by show (n' : Int) + 1 + 40 * fr s + 21 ≤ n' + 40 * fr R; omega)
  by_cases c432 : s.i 10 = 432
  · rw [if_pos c432]
    unfold f_X12_one_112
    rw [if_pos c432]
    exact lit 1 (by rw [c432]; decide) (fun _ => rfl)
  rw [if_neg c432]
  by_cases c433 : s.i 10 = 433
  · rw [if_pos c433]
    unfold f_X12_one_112
    rw [if_neg c432]
    exact lit 0 (by rw [c433]; decide) (fun q => absurd q c432)
  rw [if_neg c433, p_th 3 16 ht (by omega)]
  show ok (f_X12_parse_10 N n' (TH s t 3 16)) P
  refine CALL hx hI ht (by omega) (by omega) hc (by omega) hF (fun m2 w hw hm2 => ?_)
  obtain ⟨w1, w2, w3, w4, w5, w6, w7, w8, w9, w10, w11, w12⟩ := hw
  have fw := w1.1.f0
  obtain ⟨m3, rfl⟩ : ∃ m3, m2 = m3 + 1 := ⟨m2 - 1, by omega⟩
  have push2 : ((m3 + 1 : Nat) : Int) = (m3 : Int) + 1 := by omega
  rw [push2] at hm2
  have hpm : PM t s w := ⟨w1, w2, w3, w4, w5, w6, w7, w8, w9, w10⟩
  have kw : w.a 64 t = 22 := (w12 64 (by omega) (by omega) (by omega)).trans hK
  refine lp_22 w2 (by omega) w1.2.2.1 kw ?_
  rcases e_one3 (N := N) w1 w2 (by omega) w11 with ⟨hz, e⟩ | ⟨R, eR, h1, h2⟩
  case inr =>
    rw [eR]
    exact lp_f h2 (hF R (FS'.of w3.1.1 h1 h2 w1.r)) (by omega)
  rw [e]
  unfold f_X12_one_281
  rw [if_pos (tp_ib w2 (by omega)), tp_nat w2]
  obtain ⟨R, eR, x1, x2, x3, x4, x5, x6, x7⟩ := NX hN (w1.loc (k := 66) t (w.i 10) (by omega) (by omega)) hz
  rw [eR]
  have tR : tpI R = t := x1.tp.trans w2
  show ok (((f_X12_then N R 4 16).bind fun p => some p).bind fun p => f_X12_parse_10 N m3 p) P
  rw [p_th 4 16 tR (by omega)]
  show ok (f_X12_parse_10 N m3 (TH R t 4 16)) P
  have kR : KP t w R := ((KP.rf t w).loc (k := 66) t (w.i 10) (by omega) (by omega) (Nat.le_refl _)).lx x1
  have x5 : fr w + 1 ≤ fr R := x5
  have x6 : tkI R = tkI w + 1 := x6
  have oR : op R = op s := by unfold op; rw [x3]; exact congrArg _ w4.1
  have ksR : KP t s R := w3.tr kR (Nat.le_refl _)
  refine CALL hx x4 tR (by omega) (by omega) (by omega) (by omega) (fun u hu => hF u (FS'.kp ksR hu)) (fun m4 v hv hm4 => ?_)
  have hv' := hv
  obtain ⟨v1, v2, v3, v4, v5, v6, v7, v8, v9, v10, v11, v12⟩ := hv'
  have fv := v1.1.f0
  obtain ⟨m5, rfl⟩ : ∃ m5, m4 = m5 + 1 := ⟨m4 - 1, by omega⟩
  have cv := v1.cd
  refine lp_22 v2 (by omega) v1.2.2.1 (by rw [v12 64 (by omega) (by omega) (by omega), x1.1]; exact kw) ?_
  rw [e_one4 v2 (by omega) v11 cv.1 cv.2.2]
  have hq := PM.opp (x := v.a 66 t) hI hpm x1 x3 x5 x6 hv (Or.inr rfl)
  exact hC m5 _ (hq.pop (by omega)) (by show (n' : Int) + 1 + 40 * fr s + 21 ≤ m5 + 40 * fr v; omega)
/-- a place that is filled: what lies behind it -/
theorem AG.hole {t : Nat} {s s1 v f : RS} {C : Nat → Bool} {k : Nat} {x : Int32} (hA : AG0 s (v.setA 22 k x) f) (hC : AGC s (v.setA 22 k x) C) (k1 : KP t s s1) (k2 : KP t s1 v) (hk : (k : Int) < cdI s1) (ho : ¬ v.a 21 k = 36) : AG0 s1 v f ∧ AGC s1 v C := by
  have a22 : ∀ j : Nat, j ≠ k → (v.setA 22 k x).a 22 j = v.a 22 j := fun j hj => if_neg hj
  have hO : ∀ j : Nat, OPN (v.setA 22 k x) j → OPN v j := fun j ⟨γ, b, L, x1, x2, x3⟩ => ⟨γ, b, L, x1, by
    have e : hd (v.setA 22 k x) b γ = hd v b γ := by cases b <;> rfl
    rw [e] at x2
    refine x2.of (fun y hy => ⟨rfl, (a22 y (fun e => ho ?_)).symm⟩)
    rw [← e]
    exact x2.op y hy, x3⟩
  have h1 : AG0 s1 v (v.setA 22 k x) := ⟨Int.le_refl _, Int.le_refl _, Int.le_refl _, Int.le_refl _, fun j j1 j2 => ⟨rfl, rfl, fun _ => a22 j (by omega)⟩, fun _ _ _ => ⟨rfl, rfl, rfl⟩, fun _ _ _ => ⟨rfl, rfl, rfl⟩, fun _ _ _ => ⟨rfl, rfl, rfl⟩⟩
  exact ⟨AG0.comp h1 hA k1.2.1.1 k1.2.2.1.1 k1.2.2.2.1.1 k1.2.2.2.2.1.1 (Int.le_refl _) (fun j _ _ z => hO j z), hC.mid k1 k2 (Int.le_refl _) (Int.le_refl _) (fun _ _ => rfl) (fun j h1 h2 => by have h2 : (j : Int) < caI v := h2; omega)⟩
/-- a value that may be kept; else another -/
theorem TE.keep {t : Nat} {s w w2 v : RS} {o9 x9 : Int32} {k : Nat} (h1 : TE s w) (hk1 : KP t s w) (tn1 : TN w) (hk2 : KP t w w2) (ek : (k : Int) = cdI w) (e2 : cdI w2 = cdI w + 1) (h3 : TE w2 v) (hk3 : KP t w2 v) (tn3 : TN v) (e21 : v.a 21 k = o9) (ho : o9 = 11 ∨ o9 = 12) (hx9 : x9.toInt = cdI v) (hg : v.i 43 = w.i 43) (e38 : w2.i 38 = s.i 38) (d1 : w.i 52 = s.i 52) (d2 : w2.i 52 = s.i 52) (f1 : fr s + 1 ≤ fr w) (f2 : fr w ≤ fr w2) (f9 : fr w2 ≤ 900) (hc0 : 0 ≤ cdI s) : TE s (v.setA 22 k x9) := by
  intro f C hA hC h o lv rs hx
  have no : ¬ v.a 21 k = 36 := by rw [e21]; rcases ho with rfl | rfl <;> decide
  have hkw : KP t w (v.setA 22 k x9) := (hk2.tr hk3 (Nat.le_refl _)).hole (by omega) no
  have hks2 : KP t s w2 := hk1.tr hk2 (Nat.le_refl _)
  have gw : goI (v.setA 22 k x9) = goI w := by show goI v = goI w; unfold goI; rw [hg]
  obtain ⟨A1, C1⟩ := AG.mid hA hC (KP.rf t s) hk1 hkw tn1 (by omega)
  obtain ⟨A2, C2⟩ := AG.hole hA hC hks2 hk3 (by omega) no
  have cv := hk3.2.1.1
  have cw := hk1.2.1.1
  have c1 := h1 f C A1 C1 h o lv rs hx
  obtain ⟨x1, x2, x3, x4, x5, x6, x7, x8⟩ := id hx
  have c2 := h3 f C A2 C2 h o lv rs (hx.up h d2 (by omega) f9 (by omega))
  have cf : cdI (v.setA 22 k x9) = cdI v := rfl
  obtain ⟨g1, g2, g3, g4⟩ := hA.cell (k := k) (o := o9) (x := x9) (by omega) (by omega) e21 (if_pos rfl) (by rcases ho with rfl | rfl <;> decide)
  have c3 : COD f C k (h + 1) o lv rs (fun g => ENB s (v.setA 22 k x9) f g lv rs ∧ FL f g lv (cdI v) (cdI v) (h + 1) o rs ∧ FL f g lv (cdI w2) (cdI w2) h o rs) := by
    refine COD.ins (hx.up (h + 1) d1 (by omega) (by omega) (by omega)) g4 (fun g _ hE => ?_)
    obtain ⟨⟨e1, e2'⟩, e3, e4⟩ := hE
    refine ⟨?_, e1 _ (by omega)⟩
    rw [e2, ← ek] at e4
    have h2' : 1 ≤ Ctx.h (h + 1, o, lv, false, rs) := by show 1 ≤ h + 1; omega
    have e3' : FL f g lv ((k : Int) + 1) (gv f 22 k) (h + 1) o rs := by
      rw [g2, hx9]
      exact e3.mono (Nat.le_refl _) (by omega)
    rcases ho with rfl | rfl
    · exact okJ_11 (c := (h + 1, o, lv, false, rs)) g1 ⟨h2', e3', e4⟩
    · exact okJ_12 (c := (h + 1, o, lv, false, rs)) g1 ⟨h2', e3', e4⟩
  have c23 := COD.seq (E := fun g => ENB s (v.setA 22 k x9) f g lv rs ∧ FL f g lv (cdI v) (cdI v) (h + 1) o rs) c3 c2.cod (fun g _ hE => ⟨hE.1.mid hks2 e38 (by omega), hE.2⟩) (fun g _ hE hF => ⟨hE.1, hE.2, hF⟩)
  exact CODS.seq c1 c23 (fun g _ hE => hE) (fun g _ hE hF => ⟨hE.1.mid (KP.rf t s) rfl (by omega), by rw [ek] at hF; exact hF⟩)
theorem e_both0 {N : Nat} {u : RS} {t : Nat} (part sg stp : Int32) (ht : tpI u = t) (h9 : t < 999) (h0 : u.a 65 t = 0) : f_X12_both N u (u.i 63) part sg stp = some (TH u t 1 part) := by
  unfold f_X12_both
  rw [if_pos (tp_ib ht (by omega)), tp_nat ht, if_pos h0, p_th 1 part ht h9]
  rfl
theorem e_both1 {N : Nat} {u : RS} {t : Nat} (part sg stp : Int32) (ht : tpI u = t) (h9 : t < 999) (h0 : u.a 65 t = 1) : f_X12_both N u (u.i 63) part sg stp = f_X12_both_41 N u (u.i 63) part sg stp := by
  unfold f_X12_both
  rw [if_pos (tp_ib ht (by omega)), tp_nat ht, if_neg (by rw [h0]; decide), if_neg (by rw [h0]; decide)]
theorem e_both2 {N : Nat} {u : RS} {t k : Nat} (part sg stp : Int32) (ht : tpI u = t) (h9 : t < 999) (h0 : u.a 65 t = 2) (hk : (u.a 66 t).toInt = k) (k3 : k < 3000) : f_X12_both N u (u.i 63) part sg stp = f_X12_both_41 N (u.setA 22 k (u.i 20)) (u.i 63) part sg stp := by
  have en : (u.a 66 t).toNatClampNeg = k := by
    show (u.a 66 t).toInt.toNat = k
    rw [hk]; exact Int.toNat_natCast _
  unfold f_X12_both
  rw [if_pos (tp_ib ht (by omega)), tp_nat ht, if_neg (by rw [h0]; decide), if_pos h0, if_pos (show ib (u.a 66 t) 3000 from ⟨by omega, by omega⟩), en]
theorem PM.keep {t : Nat} {s w R v : RS} {o9 : Int32} (hI : INV s) (hw : PM t s w) (x1 : LX w R) (x2 : R.i 15 = 0) (x3 : R.i 19 = w.i 19) (x4 : INV R) (x5 : fr w + 1 ≤ fr R) (x6 : tkI R = tkI w + 1) (hv : PC t 2 ((EM R o9 0).setA 66 t (R.i 20)) v) (ho : o9 = 11 ∨ o9 = 12) : PM t s (v.setA 22 (cdI R).toNat (v.i 20)) := by
  obtain ⟨a1, a2, a3, a4, a5, a6, a7, a8, a9, a10⟩ := hw
  obtain ⟨v1, v2, v3, v4, v5, v6, v7, v8, v9, v10, v11, v12⟩ := hv
  have cR := x4.cd
  have cs := hI.cd
  have cv := v1.cd
  have ecd := x1.tbl.cd
  have eem := EM.cd (u := R) (o := o9) (x := 0) cR.1 cR.2.2
  have cw2 : cdI ((EM R o9 0).setA 66 t (R.i 20)) = cdI R + 1 := eem
  have ek : ((cdI R).toNat : Int) = cdI w := by rw [Int.toNat_of_nonneg cR.1]; exact ecd
  have kwR : KP t w R := (KP.rf t w).lx x1
  have kw2 : KP t w ((EM R o9 0).setA 66 t (R.i 20)) := (kwR.em a1.cd.1 cR.2.2).loc t _ (by omega) (by omega) (Nat.le_refl _)
  have kc := v3.2.1
  have e21 : v.a 21 (cdI R).toNat = o9 := by
    rw [kc.2.1 (cdI R).toNat (by omega)]
    show (EM R o9 0).a 21 (cdI R).toNat = o9
    rw [EM.a21, if_pos rfl]
  have no : ¬ v.a 21 (cdI R).toNat = 36 := by rw [e21]; rcases ho with rfl | rfl <;> decide
  have ksw2 := a3.tr kw2 (Nat.le_refl _)
  have ksv : KP t s v := ksw2.tr v3 (Nat.le_refl _)
  have cws := a3.2.1.1
  have ksf : KP t s (v.setA 22 (cdI R).toNat (v.i 20)) := ksv.hole (by omega) no
  have sR : SAME w R := x1.same x3
  have ssv : SAME s v := (a4.tr sR).tr v4
  have e38 : v.i 38 = s.i 38 := v5.trans (x1.i38.trans a5)
  have rsv : RATE s v := by
    have r1 := (a6.tr (x1.tbl.rate (by omega) (by omega)))
    have e2 : enI ((EM R o9 0).setA 66 t (R.i 20)) = enI R := rfl
    have e3 : trI ((EM R o9 0).setA 66 t (R.i 20)) = trI R := rfl
    have e4 : caI ((EM R o9 0).setA 66 t (R.i 20)) = caI R := rfl
    have e5 : slI ((EM R o9 0).setA 66 t (R.i 20)) = slI R := rfl
    have e6 : peI ((EM R o9 0).setA 66 t (R.i 20)) = peI R := rfl
    have e7 : fr ((EM R o9 0).setA 66 t (R.i 20)) = fr R := rfl
    have e8 : tkI ((EM R o9 0).setA 66 t (R.i 20)) = tkI R := rfl
    unfold RATE at *
    rw [cw2, e2, e3, e4, e5, e6, e7, e8] at v6
    omega
  have v7 : fr R + 1 ≤ fr v := v7
  have v8 : tkI R + 1 ≤ tkI v := v8
  have h20 := hI.op
  have oo : op v = op s := by unfold op; rw [ssv.1]
  refine ⟨hI.mk2 ksf v1.1 v1.2.2.1 (v1.2.2.2.1.hole no) ⟨by show op s ≤ op v; omega, by show op v ≤ 20; omega⟩ ssv.2.1 ssv.2.2.1 ssv.2.2.2 e38 rsv (by show fr s ≤ fr v; omega) (by show tkI s ≤ tkI v; omega), v2, ksf, ssv, e38, rsv, by show fr s + 1 ≤ fr v; omega, by show tkI s + 1 ≤ tkI v; omega, fun z => ?_, ⟨?_, fun _ z => ?_⟩⟩
  · have z1 : ¬ 0 ≤ v.i 18 := z
    have z2 : ¬ 0 ≤ w.i 18 := fun q => z1 (v3.1.2 (kw2.1.2 q))
    exact TE.keep (a9 z2) a3 a1.tn kw2 ek (by omega) (v9 z1) v3 v1.tn e21 ho rfl (v4.2.1.trans sR.2.1) (x1.i38.trans a5) a4.2.2.1 (sR.2.2.1.trans a4.2.2.1) a7 (by show fr w ≤ fr R; omega) x4.1.f0.2 cs.1
  · have b1 : bel 46 (goI w) w ((EM R o9 0).setA 66 t (R.i 20)) := fun j _ => by
      show R.a 46 j = w.a 46 j
      rw [x1.1]
    have g1 : goI w = goI s := by unfold goI; rw [a4.2.1]
    have g2 : goI ((EM R o9 0).setA 66 t (R.i 20)) = goI w := by show goI R = goI w; unfold goI; rw [sR.2.1]
    exact ((a10.1.tr b1 (by omega)).tr v10.1 (by omega))
  · have z : tkI v = tkI s + 1 := z
    omega
theorem both_tail {N : Nat} (hN : 1000 ≤ N) {part sg o9 : Int32} {r qp ep : Int} {b : Nat} (hs0 : ¬ sg = 0) (ho : o9 = 11 ∨ o9 = 12) (hp : RUNE N part (r + 1) qp ep b) {s w : RS} {t m : Nat} {P : RS → Prop} (h9 : t < 998) (hI : INV s) (hb : 2 * (t : Int) ≤ fr s + 12 * op s + 2 * r) (hc : 900 - fr s ≤ b) (hw : PM t s w) (hm : 36000 + qp ≤ m + 40 * fr w + 40) (hF : ∀ u, FS' s u → P u) (hC : ok (f_X12_parse_10 N m (w.setI 63 (w.i 63 - 1))) P) (hH : ∀ (m2 k : Nat) (v : RS), tpI v = t → v.a 64 t = w.a 64 t → v.a 65 t = 2 → INV v → (v.a 66 t).toInt = k → k < 3000 → PM t s (v.setA 22 k (v.i 20)) → fr w < fr v → (m : Int) + 40 * fr w + 40 + ep ≤ m2 + 40 * fr v → ok (f_X12_parse_10 N m2 v) P) : ok ((f_X12_both_41 N w (w.i 63) part sg o9).bind fun p => f_X12_parse_10 N m p) P := by
  have hw' := hw
  obtain ⟨a1, a2, a3, a4, a5, a6, a7, a8, a9, a10⟩ := hw'
  unfold f_X12_both_41
  by_cases ct : w.i 10 = sg
  case neg =>
    rw [if_neg ct]
    exact hC
  rw [if_pos ct, tp_nat a2]
  obtain ⟨R, eR, x1, x2, x3, x4, x5, x6, x7⟩ := NX hN a1 (by rw [ct]; exact hs0)
  rw [eR]
  have cR := x4.cd
  show ok (((f_X12_emit N R o9 0).bind fun p7 => if ib (w.i 63) 1000 then (f_X12_then N (RS.setA p7.2 66 t p7.1) 2 part).bind fun p10 => some p10 else none).bind fun p => f_X12_parse_10 N m p) P
  rw [p_em o9 0 cR.1 cR.2.2]
  show ok ((if ib (w.i 63) 1000 then (f_X12_then N ((EM R o9 0).setA 66 t (R.i 20)) 2 part).bind fun p10 => some p10 else none : Option RS).bind fun p => f_X12_parse_10 N m p) P
  rw [if_pos (tp_ib a2 (by omega))]
  show ok (((f_X12_then N ((EM R o9 0).setA 66 t (R.i 20)) 2 part).bind fun p10 => some p10).bind fun p => f_X12_parse_10 N m p) P
  have tR : tpI ((EM R o9 0).setA 66 t (R.i 20)) = t := x1.tp.trans a2
  rw [p_th 2 part tR (by omega)]
  show ok (f_X12_parse_10 N m (TH ((EM R o9 0).setA 66 t (R.i 20)) t 2 part)) P
  have kR : KP t w R := (KP.rf t w).lx x1
  have oR : op R = op s := by unfold op; rw [x3]; exact congrArg _ a4.1
  have ksR : KP t s R := a3.tr kR (Nat.le_refl _)
  have cs := hI.cd
  have ks2 : KP t s ((EM R o9 0).setA 66 t (R.i 20)) := (ksR.em cs.1 cR.2.2).loc t _ (by omega) (by omega) (Nat.le_refl _)
  have sR : SAME w R := x1.same x3
  have ss : SAME s R := a4.tr sR
  have rR : RATE s R := a6.tr (x1.tbl.rate (by omega) (by omega))
  have ecd := x1.tbl.cd
  have rE : RATE s (EM R o9 0) := rR.em cR.1 cR.2.2 (by unfold RATE at a6; omega)
  have h20 := hI.op
  have i2 : INV (EM R o9 0) := hI.mk2 (ksR.em cs.1 cR.2.2) (LXI.em x4.1) x2 (x4.2.2.2.1.em cR.1 cR.2.2) ⟨by show op s ≤ op R; omega, by show op R ≤ 20; omega⟩ ss.2.1 ss.2.2.1 ss.2.2.2 (x1.i38.trans a5) rE (by show fr s ≤ fr R; omega) (by show tkI s ≤ tkI R; omega)
  refine CALL hp (i2.loc t (R.i 20) (by omega) (by omega)) tR (by omega) (by show 2 * ((t : Int) + 1) ≤ fr R + 12 * op R + 2 * (r + 1); omega) (by show 900 - fr R ≤ b; omega) (by show 36000 + qp ≤ m + 40 * fr R; omega) (fun u hu => hF u (FS'.kp ks2 hu)) (fun m2 v hv hm2 => ?_)
  have hm2 : (m : Int) + 40 * fr R + ep ≤ m2 + 40 * fr v := hm2
  have hq := PM.keep hI hw x1 x2 x3 x4 x5 x6 hv ho
  obtain ⟨v1, v2, v3, v4, v5, v6, v7, v8, v9, v10, v11, v12⟩ := hv
  have v7 : fr R + 1 ≤ fr v := v7
  refine hH m2 (cdI R).toNat v v2 ?_ v11 v1 ?_ (by omega) hq (by omega) (by omega)
  · rw [v12 64 (by omega) (by omega) (by omega)]
    show (EM R o9 0).a 64 t = w.a 64 t
    rw [EM.a (by omega) (by omega) (by omega), x1.1]
  · rw [v12 66 (by omega) (by omega) (by omega)]
    show (if t = t then R.i 20 else (EM R o9 0).a 66 t).toInt = _
    rw [if_pos rfl, Int.toNat_of_nonneg cR.1]
    rfl
theorem run_both {N : Nat} (hN : 1000 ≤ N) {K part sg o9 : Int32} {r q e qp ep : Int} {b : Nat} (hs0 : ¬ sg = 0) (ho : o9 = 11 ∨ o9 = 12)
  (lpK : ∀ {m : Nat} {u : RS} {t : Nat} {P : RS → Prop}, tpI u = t → t < 1000 → u.i 15 = 0 → u.a 64 t = K → ok ((f_X12_both N u (u.i 63) part sg o9).bind fun p => f_X12_parse_10 N m p) P → ok (f_X12_parse_10 N (m + 1) u) P)
  (hp : RUNE N part (r + 1) qp ep b) (hr5 : r ≤ 5) (hq0 : 0 ≤ qp) (hq : qp + 3 ≤ q) (he : e + 3 ≤ ep) (he0 : 0 ≤ e) (he4 : ep ≤ 40) : RUNE N K r q e b := by
  intro n s t P hI ht hK hS hb hc hn hF hC
  have hf := hI.1.f0
  have hop := hI.op
  have h9 : t < 998 := by omega
  have head : ∀ (c m : Nat) (w : RS), (900 - fr w).toNat = c → tpI w = t → w.a 64 t = K → (w.a 65 t = 1 ∧ PM t s w ∨ w.a 65 t = 2 ∧ INV w ∧ ∃ k : Nat, (w.a 66 t).toInt = k ∧ k < 3000 ∧ PM t s (w.setA 22 k (w.i 20))) → (n : Int) + 40 * fr s + e + 1 ≤ m + 40 * fr w → ok (f_X12_parse_10 N m w) P := by
    intro c
    induction c using Nat.strongRecOn with
    | ind c IH =>
      intro m w hcw tw kw hw hm
      have iw : INV w := by
        rcases hw with hw | hw
        · exact hw.2.1
        · exact hw.2.1
      have fw := iw.1.f0
      obtain ⟨m', rfl⟩ : ∃ m', m = m' + 1 := ⟨m - 1, by omega⟩
      have cw := iw.cd
      have push : ((m' + 1 : Nat) : Int) = (m' : Int) + 1 := by omega
      rw [push] at hm
      refine lpK tw (by omega) iw.2.2.1 kw ?_
      rcases hw with ⟨w1, w2⟩ | ⟨w1, w2, k, k1, k2, w3⟩
      · rw [e_both1 part sg o9 tw (by omega) w1]
        refine both_tail hN hs0 ho hp h9 hI hb hc w2 (by omega) hF (hC m' _ (w2.pop (by omega)) (by show (n : Int) + 40 * fr s + e ≤ m' + 40 * fr w; omega)) (fun m2 k v v1 v2 v3 v4 v5 v6 v7 v8 v9 => ?_)
        exact IH (900 - fr v).toNat (by have := v4.1.f0; omega) m2 v rfl v1 (v2.trans kw) (Or.inr ⟨v3, v4, k, v5, v6, v7⟩) (by omega)
      · rw [e_both2 part sg o9 tw (by omega) w1 k1 k2]
        refine both_tail (w := w.setA 22 k (w.i 20)) hN hs0 ho hp h9 hI hb hc w3 (by show 36000 + qp ≤ m' + 40 * fr w + 40; omega) hF (hC m' _ (w3.pop (by omega)) (by show (n : Int) + 40 * fr s + e ≤ m' + 40 * fr w; omega)) (fun m2 k v v1 v2 v3 v4 v5 v6 v7 v8 v9 => ?_)
        have v8 : fr w < fr v := v8
        have v9 : (m' : Int) + 40 * fr w + 40 + ep ≤ m2 + 40 * fr v := v9
        exact IH (900 - fr v).toNat (by have := v4.1.f0; omega) m2 v rfl v1 (v2.trans kw) (Or.inr ⟨v3, v4, k, v5, v6, v7⟩) (by omega)
  obtain ⟨n', rfl⟩ : ∃ n', n = n' + 1 := ⟨n - 1, by omega⟩
  have push : ((n' + 1 : Nat) : Int) = (n' : Int) + 1 := by omega
  rw [push] at hn head hC
  refine lpK ht (by omega) hI.2.2.1 hK ?_
  rw [e_both0 part sg o9 ht (by omega) hS]
  show ok (f_X12_parse_10 N n' (TH s t 1 part)) P
  refine CALL hp hI ht (by omega) (by omega) hc (by omega) hF (fun m w hw hm => ?_)
  obtain ⟨v1, v2, v3, v4, v5, v6, v7, v8, v9, v10, v11, v12⟩ := hw
  exact head _ m w rfl v2 ((v12 64 (by omega) (by omega) (by omega)).trans hK) (Or.inl ⟨v11, v1, v2, v3, v4, v5, v6, v7, v8, v9, v10⟩) (by omega)
theorem run_ands {N : Nat} (hN : 1000 ≤ N) {b : Nat} (hp : RUNE N 22 3 14 21 b) : RUNE N 21 2 17 18 b :=
  run_both hN (by decide) (Or.inr rfl) (fun h1 h2 h3 h4 h5 => lp_21 h1 h2 h3 h4 h5) hp (by omega) (by omega) (by omega) (by omega) (by omega) (by omega)
theorem run_cond {N : Nat} (hN : 1000 ≤ N) {b : Nat} (hp : RUNE N 21 2 17 18 b) : RUNE N 20 1 20 15 b :=
  run_both hN (by decide) (Or.inl rfl) (fun h1 h2 h3 h4 h5 => lp_20 h1 h2 h3 h4 h5) hp (by omega) (by omega) (by omega) (by omega) (by omega) (by omega)
