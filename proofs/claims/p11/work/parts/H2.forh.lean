/-! reading: for: its head -/
/-- the step and a inner word are laid, the word is read -/
theorem STARTl {N : Nat} (hN : 1000 ≤ N) {s u : RS} {t k : Nat} {K : Int32} (y : Int32) (h1 : 64 ≤ k) (h2 : k ≤ 73) (hI : INV s) (ht : tpI s = t) (hz : ¬ s.i 10 = 0) (hu : SKF s u t K) : ∃ R, f_X12_next N (u.setA k t y) = some R ∧ MM t s R ∧ cdI R = cdI s + 1 ∧ R.a = (u.setA k t y).a ∧ (410 ≤ s.i 10 → fr s + 2 ≤ fr R) ∧ slI R = slI s ∧ LX (u.setA k t y) R := by
  obtain ⟨ul, ui, ut, uk, uc, u21, u64, u65, ua⟩ := hu
  obtain ⟨U, hU⟩ : ∃ U, U = u.setA k t y := ⟨_, rfl⟩
  have lU : LXI U := by rw [hU]; exact ul
  have iU : U.i = u.i := by rw [hU]; rfl
  have kU : KP t s U := by rw [hU]; exact uk.loc t y h1 h2 (Nat.le_refl _)
  have tU : TAB U := by rw [hU]; exact ut.tbl (TBL.loc _ t y h1 h2) (fun γ hγ => (ut.2.2.2.2.2.2.1 γ hγ).2) ut.2.2.2.2.2.2.2.2.2
  rw [← hU]
  clear hU
  have ui : ∀ j : Nat, j ≠ 20 → j ≠ 53 → U.i j = s.i j := fun j a b => by rw [iU]; exact ui j a b
  have uc : cdI U = cdI s + 1 := by unfold cdI at *; rw [iU]; exact uc
  obtain ⟨R, eR, x1, x2, x3, x4⟩ := p_nx hN lU
  obtain ⟨r15, rc⟩ := x4 ((ui 15 (by decide) (by decide)).trans hI.2.2.1)
  obtain ⟨c1, c2, c3⟩ := rc (fun z => hz ((ui 10 (by decide) (by decide)).symm.trans z))
  have fu : fr U = fr s := by unfold fr; rw [ui 11 (by decide) (by decide)]
  have u10 : U.i 10 = s.i 10 := ui 10 (by decide) (by decide)
  have hf := hI.1.f0
  have n12 := hI.tk
  have tk : tkI R = tkI s + 1 := tk_add (u := s) (c1.trans (congrArg (· + 1) (ui 17 (by decide) (by decide)))) ⟨n12.1, by omega⟩
  have kR : KP t s R := kU.lx x1
  have tR : TAB R := tU.lx x1
  have e := x1.tbl
  have ecd : cdI R = cdI s + 1 := e.cd.trans uc
  have e5 : slI R = slI s := by rw [e.sl]; unfold slI; rw [ui 42 (by decide) (by decide)]
  have rt : RATE s R := by
    have e2 : enI R = enI s := by rw [e.en]; unfold enI; rw [ui 24 (by decide) (by decide)]
    have e3 : trI R = trI s := by rw [e.tt]; unfold trI; rw [ui 29 (by decide) (by decide)]
    have e4 : caI R = caI s := by rw [e.ca]; unfold caI; rw [ui 33 (by decide) (by decide)]
    have e6 : peI R = peI s := by rw [e.pe]; unfold peI; rw [ui 59 (by decide) (by decide)]
    unfold RATE
    omega
  have ss : SAME s R := SAME.tr (show SAME s U from ⟨ui 19 (by decide) (by decide), ui 43 (by decide) (by decide), ui 52 (by decide) (by decide), ui 56 (by decide) (by decide)⟩) (x1.same x2)
  have e38 : R.i 38 = s.i 38 := x1.i38.trans (ui 38 (by decide) (by decide))
  have tp : tpI R = t := x1.tp.trans ((congrArg Int32.toInt (ui 63 (by decide) (by decide))).trans ht)
  exact ⟨R, eR, ⟨hI.mkS kR x1.2.2.2.1 r15 tR ss (SNW.eq e38 kR.2.2.2.2.2.1.2.1) rt (by omega) (by omega), tp, kR, ss, e38, rt, by omega, by omega⟩, ecd, x1.1, fun q => by have := c3 (Or.inl (by rw [u10]; exact q)); omega, e5, x1⟩
/-- inside a for's head, before anything of it is laid -/
def HD (t : Nat) (s w : RS) : Prop := MF t s w ∧ w.i 38 = s.i 38 ∧ slI w = slI s ∧ cdI w = cdI s + 1 ∧ w.a 21 (cdI s).toNat = 1 ∧ w.a 64 t = 12 ∧ w.a 71 t = s.i 38 ∧ fr s + 3 ≤ fr w
theorem HD.step {t : Nat} {s u w : RS} (h : HD t s u) (m : MF t s w) (tb : TBL u w) (a64 : w.a 64 t = u.a 64 t) (a71 : w.a 71 t = u.a 71 t) (f : fr u ≤ fr w) : HD t s w := ⟨m, (tb.2.2 38 (by omega) (by omega) (by omega) (by omega)).trans h.2.1, tb.sl.trans h.2.2.1, tb.cd.trans h.2.2.2.1, by rw [tb.1 21 (by omega)]; exact h.2.2.2.2.1, a64.trans h.2.2.2.2.2.1, a71.trans h.2.2.2.2.2.2.1, by have := h.2.2.2.2.2.2.2; omega⟩
theorem HD.nx {t : Nat} {s u w : RS} (h : HD t s u) (i : INV w) (x : LX u w) (h19 : w.i 19 = u.i 19) (hf : fr u + 1 ≤ fr w) (tk : tkI w = tkI u + 1) : HD t s w := h.step (h.1.lx i x h19 hf tk) x.tbl (by rw [x.1]) (by rw [x.1]) (by omega)
theorem HD.loc {t : Nat} {s u : RS} (h : HD t s u) {k : Nat} (v : Int32) (h1 : 65 ≤ k) (h2 : k ≤ 70) : HD t s (u.setA k t v) := h.step (h.1.loc v (by omega) (by omega)) (TBL.loc u t v (by omega) (by omega)) (congrFun (setA_nk (by omega)) t) (congrFun (setA_nk (by omega)) t) (Int.le_refl _)
theorem HD.opn {t : Nat} {s R O : RS} (mR : MM t s R) (i : INV O) (k : KP t R O) (tb : TBL R O) (h19 : O.i 19 = R.i 19 + 1) (hop : op O = op R + 1) (h52 : O.i 52 = R.i 52) (tp : tpI O = tpI R) (hf : fr R + 1 ≤ fr O) (tk : tkI O = tkI R + 1) (ea : O.a = R.a) (sl : slI R = slI s) (cR : cdI R = cdI s + 1) (R21 : R.a 21 (cdI s).toNat = 1) (R64 : R.a 64 t = 12) (R71 : R.a 71 t = s.i 38) (f2 : fr s + 2 ≤ fr R) (b46 : bel 46 (goI s) s R) : HD t s O := by
  obtain ⟨a1, a2, a3, a4, a5, a6, a7, a8⟩ := mR
  have ks : KP t s O := a3.tr k (Nat.le_refl _)
  have e38 : O.i 38 = s.i 38 := (tb.2.2 38 (by omega) (by omega) (by omega) (by omega)).trans a5
  exact ⟨⟨i, tp.trans a2, ks, ⟨h19.trans (by rw [a4.1]), (tb.2.2 43 (by omega) (by omega) (by omega) (by omega)).trans a4.2.1, h52.trans a4.2.2.1, (tb.2.2 56 (by omega) (by omega) (by omega) (by omega)).trans a4.2.2.2⟩, SNW.eq e38 ks.2.2.2.2.2.1.2.1, a6.tr (tb.rate (by omega) (by omega)), by omega, by omega, by have := a4.eOp; omega, fun j hj => by rw [ea]; exact b46 j hj⟩, e38, tb.sl.trans sl, tb.cd.trans cR, by rw [ea]; exact R21, by rw [ea]; exact R64, by rw [ea]; exact R71, by omega⟩
/-- int x = .. or int x : .. -/
theorem FOT {N b : Nat} (hN : 4000 ≤ N) (hc' : 1 ≤ b → RUNE N 20 1 20 15 (b - 1)) (hx : 1 ≤ b → RUNE N 16 4 11 24 (b - 1)) (hs : 1 ≤ b → RUNS N (b - 1)) {n : Nat} {s p : RS} {t : Nat} {P : RS → Prop} (hI : INV s) (hp : PRS s) (h9 : t < 998) (hb : 2 * (t : Int) ≤ fr s + 12 * op s + 2) (hcb : 900 - fr s ≤ b) (hF : ∀ u, FS' s u → P u) (hP : HD t s p) (hn : 36000 + 29 ≤ (n : Int) + 1 + 40 * fr s) (n1 : 1 ≤ n) (hC : ∀ (m : Nat) (u : RS), PS t s u → fr s + 1 ≤ fr u → (n : Int) + 1 + 40 * fr s + 11 ≤ m + 40 * fr u → ok (f_X12_parse_10 N m u) P) (tok : p.i 10 = 61 ∨ p.i 10 = 58) {x1 : Int32} (e1 : x1 = p.i 63) : ok ((f_X12_forHead_61 N p x1).bind fun p => f_X12_parse_10 N n p) P := by
  have hN1 : 1000 ≤ N := by omega
  obtain ⟨w, ew, y1, y2, y3, y4, y5, y6, y7⟩ := NX hN1 hP.1.1 (by rcases tok with h | h <;> (rw [h]; decide))
  have hW := hP.nx y4 y1 y3 y5 y6
  obtain ⟨mW, w38, wsl, cw, w21, w64, w71, fw⟩ := id hW
  have fwf := y4.1.f0
  have hf := hI.1.f0
  have cs := hI.cd
  have tpw : tpI w = t := mW.2.1
  have ibx : ib x1 1000 := by rw [e1]; exact tp_ib hP.1.2.1 (by omega)
  have nx : x1.toNatClampNeg = t := by rw [e1]; exact tp_nat hP.1.2.1
  unfold f_X12_forHead_61 f_X12_forHead_76 f_X12_forHead_142
  rw [ew]
  by_cases c : p.i 10 = 58
  case neg =>
    rw [if_neg c]
    show ok ((if (0 : Int32) = 0 then (f_X12_then N w 1 16).bind fun p50 => some p50 else (if (w.i 10) = 434 then (f_X12_next N w).bind fun p45 => (f_X12_emit N p45 20 1).bind fun p47 => if ib x1 1000 then some (RS.setA p47.2 65 x1.toNatClampNeg 12) else none else if ib x1 1000 then (f_X12_then N (RS.setA w 68 x1.toNatClampNeg 0) 10 16).bind fun p43 => some p43 else none) : Option RS).bind fun p => f_X12_parse_10 N n p) P
    rw [if_pos rfl, p_th 1 16 tpw (by omega)]
    exact FO1 hN hc' hx hs hI hp h9 hb hcb hF mW w38 wsl cw w21 fw w64 w71 hn hC
  rw [if_pos c]
  show ok ((if (1 : Int32) = 0 then (f_X12_then N w 1 16).bind fun p50 => some p50 else (if (w.i 10) = 434 then (f_X12_next N w).bind fun p45 => (f_X12_emit N p45 20 1).bind fun p47 => if ib x1 1000 then some (RS.setA p47.2 65 x1.toNatClampNeg 12) else none else if ib x1 1000 then (f_X12_then N (RS.setA w 68 x1.toNatClampNeg 0) 10 16).bind fun p43 => some p43 else none) : Option RS).bind fun p => f_X12_parse_10 N n p) P
  rw [if_neg (by decide), if_pos ibx, nx]
  by_cases c4 : w.i 10 = 434
  · rw [if_pos c4]
    obtain ⟨z, ez, z1, z2, z3, z4, z5, z6, z7⟩ := NX hN1 y4 (by rw [c4]; decide)
    rw [ez]
    have hZ := hW.nx z4 z1 z3 z5 z6
    have cz := z4.cd
    show ok (((f_X12_emit N z 20 1).bind fun p47 => if ib x1 1000 then some (RS.setA p47.2 65 t 12) else none).bind fun p => f_X12_parse_10 N n p) P
    rw [p_em 20 1 cz.1 cz.2.2]
    show ok ((if ib x1 1000 then some ((EM z 20 1).setA 65 t 12) else none : Option RS).bind fun p => f_X12_parse_10 N n p) P
    rw [if_pos ibx]
    show ok (f_X12_parse_10 N n ((EM z 20 1).setA 65 t 12)) P
    obtain ⟨D, hD⟩ : ∃ D, D = (EM z 20 1).setA 65 t 12 := ⟨_, rfl⟩
    obtain ⟨mZ, z38, zsl, czz, z21, z64, z71, fz⟩ := id hZ
    have mD : MF t s D := by rw [hD]; exact (mZ.em hI (by omega)).loc _ (by omega) (by omega)
    have cD : cdI D = cdI s + 2 := by rw [hD]; exact (EM.cd (u := z) (o := 20) (x := 1) cz.1 cz.2.2).trans (by omega)
    have D21 : ∀ j : Nat, D.a 21 j = if j = (cdI z).toNat then 20 else z.a 21 j := fun j => by rw [hD, setA_nk (by decide)]; exact EM.a21 j
    have D22 : D.a 22 (cdI z).toNat = 1 := by rw [hD, setA_nk (by decide), EM.a22, if_pos rfl]
    have D65 : D.a 65 t = 12 := by rw [hD]; exact setA_at
    have lD : ∀ k : Nat, 64 ≤ k → k ≤ 73 → k ≠ 65 → D.a k t = z.a k t := fun k h1 h2 h3 => by rw [hD, setA_nk h3, EM.a (by omega) (by omega) (by omega)]
    have fD : fr D = fr z := by rw [hD]; rfl
    have slD : slI D = slI z := by rw [hD]; rfl
    rw [← hD]
    clear hD
    have fzf := z4.1.f0
    obtain ⟨m', rfl⟩ : ∃ m', n = m' + 1 := ⟨n - 1, by omega⟩
    have push' : ((m' + 1 : Nat) : Int) = (m' : Int) + 1 := by omega
    rw [push'] at hn hC
    refine RO12 (m := m') hN hs hI hp h9 hb hcb hF mD (by omega) ?_ D65 ?_ (by omega) (by omega) (RWT.raise hI mD.2.2.1 (by omega) ?_ ?_ ?_) (by omega) (by omega) (fun m4 u' hu hf hm => hC m4 u' hu (by omega) (by omega))
    · rw [lD 64 (by omega) (by omega) (by decide)]; exact z64
    · rw [lD 71 (by omega) (by omega) (by decide)]; exact z71
    · rw [D21, if_neg (by omega)]; exact z21
    · rw [D21, if_pos (by rw [czz])]
    · rw [← czz]; exact D22
  rw [if_neg c4]
  obtain ⟨A, hA⟩ : ∃ A, A = w.setA 68 t 0 := ⟨_, rfl⟩
  have hAH : HD t s A := by rw [hA]; exact hW.loc _ (by omega) (by omega)
  have A68 : A.a 68 t = 0 := by rw [hA]; exact setA_at
  have fA : fr A = fr w := by rw [hA]; rfl
  rw [← hA]
  clear hA
  obtain ⟨mA, a38, asl, cA, a21, a64, a71, fA3⟩ := id hAH
  rw [p_th 10 16 mA.2.1 (by omega)]
  exact RO10 (B := (n : Int) + 1 + 40 * fr s + 11) hN hx hs hI hp h9 hb hcb hF mA.2.2.1 cA a21 a38 mA.2.2.2.1.2.2.1 (by omega) hC 900 n 0 A A (by omega) mA a64 a71 (by rw [A68]; decide) a38 (by omega) (by omega) (by omega) (by omega) (fun _ => TEN.zero A) (KP.rf t A) mA.1.tn (KP.rf t A) rfl mA.go (by omega) (by omega)
