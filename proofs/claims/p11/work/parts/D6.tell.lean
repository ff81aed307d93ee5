/-! reading: int and var, names -/
/-- inside a statement, at the same goals, names and signs -/
def MM (t : Nat) (s u : RS) : Prop := INV u ∧ tpI u = t ∧ KP t s u ∧ SAME s u ∧ u.i 38 = s.i 38 ∧ RATE s u ∧ fr s + 1 ≤ fr u ∧ tkI s + 1 ≤ tkI u
theorem MK.mm {t : Nat} {K : Int32} {s R : RS} (h : MK t K s R) : MM t s R := ⟨h.1, h.2.1, h.2.2.1, h.2.2.2.1, h.2.2.2.2.1, h.2.2.2.2.2.1, h.2.2.2.2.2.2.1, by have := h.2.2.2.2.2.2.2.1; omega⟩
theorem MM.step {t : Nat} {s u w : RS} (h : MM t s u) (i : INV w) (tb : TBL u w) (k : KP t u w) (sm : SAME u w) (tp : tpI w = tpI u) (hf : fr u ≤ fr w) (tk : tkI u ≤ tkI w) (tk2 : tkI w - tkI u ≤ fr w - fr u) : MM t s w := by
  obtain ⟨a1, a2, a3, a4, a5, a6, a7, a8⟩ := h
  exact ⟨i, tp.trans a2, a3.tr k (Nat.le_refl _), a4.tr sm, (tb.2.2 38 (by omega) (by omega) (by omega) (by omega)).trans a5, a6.tr (tb.rate hf tk2), by omega, by omega⟩
theorem MM.lx {t : Nat} {s u w : RS} (h : MM t s u) (i : INV w) (x : LX u w) (h19 : w.i 19 = u.i 19) (hf : fr u + 1 ≤ fr w) (tk : tkI w = tkI u + 1) : MM t s w := h.step i x.tbl ((KP.rf t u).lx x) (x.same h19) x.tp (by omega) (by omega) (by omega)
theorem MM.loc {t : Nat} {s u : RS} (h : MM t s u) {k : Nat} (v : Int32) (h1 : 64 ≤ k) (h2 : k ≤ 73) : MM t s (u.setA k t v) := h.step (h.1.loc t v h1 h2) (TBL.loc u t v h1 h2) ((KP.rf t u).loc t v h1 h2 (Nat.le_refl _)) ⟨rfl, rfl, rfl, rfl⟩ rfl (Int.le_refl _) (Int.le_refl _) (by show tkI u - tkI u ≤ fr u - fr u; omega)
theorem MM.pc {t : Nat} {st : Int32} {s u v : RS} (h : MM t s u) (hv : PC t st u v) : MM t s v := by
  obtain ⟨a1, a2, a3, a4, a5, a6, a7, a8⟩ := h
  obtain ⟨v1, v2, v3, v4, v5, v6, v7, v8, -⟩ := hv
  exact ⟨v1, v2, a3.tr v3 (Nat.le_refl _), a4.tr v4, v5.trans a5, a6.tr v6, by omega, by omega⟩
theorem MM.snw {t : Nat} {s u : RS} (h : MM t s u) : SNW s u := SNW.eq h.2.2.2.2.1 h.2.2.1.2.2.2.2.2.1.2.1
/-- an instruction, then the end of a statement -/
theorem MID.em {t : Nat} {s u : RS} {o x y : Int32} (h : MM t s u) (hI : INV s) (hc : cdI u + 1 - cdI s ≤ 3 * (fr u + 1 - fr s)) (hT : ¬ 0 ≤ u.i 18 → TS s ((EM u o x).setI 75 y)) : MID t s (EM u o x) y := by
  obtain ⟨a1, a2, a3, a4, a5, a6, a7, a8⟩ := id h
  have cu := a1.cd
  have cs := hI.cd
  have sn := h.snw
  refine ⟨LXI.em a1.1, a1.2.2.1, a1.2.2.2.1.em cu.1 cu.2.2, a2, a3.em cs.1 cu.2.2, a4, sn, ?_, by show fr s ≤ fr u; omega, by show tkI s ≤ tkI u; omega, hT⟩
  have e := EM.cd (o := o) (x := x) cu.1 cu.2.2
  have e2 : enI (EM u o x) = enI u := rfl
  have e3 : trI (EM u o x) = trI u := rfl
  have e4 : caI (EM u o x) = caI u := rfl
  have e5 : slI (EM u o x) = slI u := rfl
  have e6 : peI (EM u o x) = peI u := rfl
  have e7 : fr (EM u o x) = fr u := rfl
  have e8 : tkI (EM u o x) = tkI u := rfl
  unfold RAT1
  unfold RATE at a6
  rw [e, e2, e3, e4, e5, e6, e7, e8]
  omega
theorem p_seq {N : Nat} {t : Nat} {s v : RS} (n : Int64) (hv : INV v) (hk : KP t s v) (hn : SNW s v) (h38 : 0 ≤ seI s) : ∃ q, f_X12_see N v n 0 = some (v.i 42, q) ∧ (∀ j : Nat, j ≠ 38 → j ≠ 42 → q.i j = v.i j) ∧ (∀ k : Nat, k ≠ 40 → k ≠ 41 → q.a k = v.a k) ∧ LXI q ∧ TAB q ∧ KP t v q ∧ SNW s q ∧ slI q = slI v + 1 ∧ seI q = seI v + 1 := by
  have nse := hv.2.2.2.2.2.2.2.2.2.1
  have nsl := hv.2.2.2.2.2.2.2.2.2.2.1
  have fv := hv.1.f0
  have se4 : seI v < 460 := by omega
  have sl4 : slI v < 460 := by omega
  have ksl := hk.2.2.2.2.2.1.2.1
  refine ⟨SE v n 0, p_se n (Or.inl rfl) nse.1 se4, fun j h1 h2 => SE.eI h1 h2, fun k h1 h2 => SE.eA h1 h2, hv.1, hv.2.2.2.1.se0 nse.1 se4 (by omega) sl4, (KP.rf t v).se nse.1 se4 (by omega) sl4, hn.se nse.1 se4 (by omega) sl4 ksl, SE.eSL (by omega) sl4, SE.eSE nse.1 se4⟩
theorem MID.tell {t : Nat} {s w v q : RS} (hI : INV s) (mW : MM t s w) (hv : PC t 1 w v) (cw : cdI w = cdI s + 1) (fw : fr s + 3 ≤ fr w) (slw : slI w = slI s) (w21 : w.a 21 (cdI s).toNat = 1) (qi : ∀ j : Nat, j ≠ 38 → j ≠ 42 → q.i j = v.i j) (qa : ∀ k : Nat, k ≠ 40 → k ≠ 41 → q.a k = v.a k) (ql : LXI q) (qt : TAB q) (qk : KP t v q) (qn : SNW s q) (qsl : slI q = slI v + 1) : MID t s (EM q 5 (v.i 42)) 1 := by
  have mV := mW.pc hv
  have cs := hI.cd
  obtain ⟨v1, v2, v3, v4, v5, v6, v7, v8, v9, v10, v11, v12⟩ := hv
  have fv := v1.1.f0
  have cv := v1.cd
  have nsl := v1.2.2.2.2.2.2.2.2.2.2.1
  have nse := v1.2.2.2.2.2.2.2.2.2.1
  have ksl := mV.2.2.1.2.2.2.2.2.1.2.1
  have cq : cdI q = cdI v := by unfold cdI; rw [qi 20 (by decide) (by decide)]
  have fq : fr q = fr v := by unfold fr; rw [qi 11 (by decide) (by decide)]
  have tkq : tkI q = tkI v := by unfold tkI; rw [qi 17 (by decide) (by decide)]
  have m8 := mV.2.2.2.2.2.2.2
  have smq : SAME s q := mV.2.2.2.1.tr ⟨qi 19 (by decide) (by decide), qi 43 (by decide) (by decide), qi 52 (by decide) (by decide), qi 56 (by decide) (by decide)⟩
  have eem : cdI (EM q 5 (v.i 42)) = cdI v + 1 := by rw [← cq]; exact EM.cd (u := q) (by omega) (by omega)
  have kem : KP t v (EM q 5 (v.i 42)) := qk.em cv.1 (by omega)
  refine ⟨LXI.em ql, (EM.i (by decide)).trans ((qi 15 (by decide) (by decide)).trans v1.2.2.1), qt.em (by omega) (by omega), ?_, mV.2.2.1.tr kem (Nat.le_refl _), smq, qn, ?_, by show fr s ≤ fr q; omega, by show tkI s ≤ tkI q; omega, fun z => ?_⟩
  · show tpI q = t
    unfold tpI
    rw [qi 63 (by decide) (by decide)]
    exact v2
  · have e2 : enI (EM q 5 (v.i 42)) = enI v := by show enI q = _; unfold enI; rw [qi 24 (by decide) (by decide)]
    have e3 : trI (EM q 5 (v.i 42)) = trI v := by show trI q = _; unfold trI; rw [qi 29 (by decide) (by decide)]
    have e4 : caI (EM q 5 (v.i 42)) = caI v := by show caI q = _; unfold caI; rw [qi 33 (by decide) (by decide)]
    have e5 : slI (EM q 5 (v.i 42)) = slI v + 1 := qsl
    have e6 : peI (EM q 5 (v.i 42)) = peI v := by show peI q = _; unfold peI; rw [qi 59 (by decide) (by decide)]
    have e7 : fr (EM q 5 (v.i 42)) = fr v := fq
    have e8 : tkI (EM q 5 (v.i 42)) = tkI v := tkq
    have ra := mV.2.2.2.2.2.1
    unfold RATE at v6 ra
    unfold RAT1
    rw [eem, e2, e3, e4, e5, e6, e7, e8]
    omega
  · have z1 : ¬ 0 ≤ v.i 18 := fun y => z (by show 0 ≤ q.i 18; rw [qi 18 (by decide) (by decide)]; exact y)
    have ek : ((cdI s).toNat : Int) = cdI s := Int.toNat_of_nonneg cs.1
    have e0 : v.a 21 (cdI s).toNat = 1 := by
      rw [v3.2.1.2.1 (cdI s).toNat (by omega)]; exact w21
    have kW : KP t v ((EM q 5 (v.i 42)).setI 75 1) := kem.i75 1
    have gW : goI ((EM q 5 (v.i 42)).setI 75 1) ≤ goI v := by
      show goI q ≤ goI v
      unfold goI
      rw [qi 43 (by decide) (by decide)]
      exact Int.le_refl _
    refine TS.e1 (o9 := 5) (x := v.i 42) mW.2.2.1 (v9 z1) v3 v1.tn kW gW cs.1 cw eem ?_ ?_ ?_ (by decide) mW.2.2.2.2.1 mW.2.2.2.1.2.2.1 mV.2.2.2.1.2.2.1 (by omega) v7 fv.2 (fun f C g h o lv rs hC' hg hy _ hE g1 g2 g3 ek2 => ?_)
    · show (EM q 5 (v.i 42)).a 21 (cdI s).toNat = 1
      have lt := v3.2.1.1
      rw [EM.a21, if_neg (by omega), qa 21 (by decide) (by decide)]
      exact e0
    · show (EM q 5 (v.i 42)).a 21 (cdI v).toNat = 5
      rw [EM.a21, if_pos (by rw [cq])]
    · show (EM q 5 (v.i 42)).a 22 (cdI v).toNat = v.i 42
      rw [EM.a22, if_pos (by rw [cq])]
    · have hF' : FL f g lv (((cdI v).toNat : Int) + 1) (((cdI v).toNat : Int) + 1) h o rs := by
        rw [ek2]; exact hE.2.1 rfl
      have hsl : gv f 22 (cdI v).toNat = slI v := g2
      refine okJ_5 (c := (h + 1, o, lv, false, rs)) g1 ⟨by rw [hsl]; exact ⟨by omega, by omega⟩, ?_, by show 1 ≤ h + 1; omega, hF'⟩
      rw [hsl, hg]
      have es : ((slI v).toNat : Int) = slI v := Int.toNat_of_nonneg (by omega)
      have := hC' (slI v).toNat (by omega) (by rw [es]; show slI v < slI q; omega)
      cases hq : C (slI v).toNat with
      | false => rfl
      | true =>
        obtain ⟨j, j1, j2, j3⟩ := this.mp hq
        have j3 : gv q 36 j = ((slI v).toNat : Int) := j3
        have e36 : gv q 36 j = gv v 36 j := by unfold gv; rw [qa 36 (by decide) (by decide)]
        have j2 : (j : Int) < caI q := j2
        have ecq : caI q = caI v := by unfold caI; rw [qi 33 (by decide) (by decide)]
        have := (v1.2.2.2.1.2.2.2.2.2.1 j (by omega)).2
        omega
theorem run_tell {N b : Nat} (hN : 1000 ≤ N) (hx : 1 ≤ b → RUNE N 16 4 11 24 (b - 1)) : RUNK N b 4 (fun x => x = 410 ∨ x = 411) := by
  intro n s t P hI hp ht hS hT hb hc hn hF hC
  have hf := hI.1.f0
  have hop := hI.op
  have cs := hI.cd
  have h9 : t < 998 := by omega
  obtain ⟨n', rfl⟩ : ∃ n', n = n' + 1 := ⟨n - 1, by omega⟩
  have push : ((n' + 1 : Nat) : Int) = (n' : Int) + 1 := by omega
  rw [push] at hn hC
  have n1 : 1 ≤ n' := by omega
  have hz : ¬ s.i 10 = 0 := by rcases hT with h | h <;> (rw [h]; decide)
  have h410 : 410 ≤ s.i 10 := by rcases hT with h | h <;> (rw [h]; decide)
  refine lp_4 (u := SK s t 4) ht (by omega) hI.2.2.1 SK.a64 ?_
  have hS4 : (SK s t 4).a 65 t = 0 := by rw [SK.a (by decide) (by decide) (by decide) (by decide)]; exact hS
  unfold f_X12_tell
  rw [if_pos (tp_ib (u := SK s t 4) ht (by omega)), tp_nat (u := SK s t 4) ht, if_pos hS4]
  obtain ⟨R, eR, hR, xR⟩ := START hN 4 hI ht hS hz
  rw [eR]
  have mR := hR.mm
  obtain ⟨r1, r2, r3, r4, r5, r6, r7, r8, r9, r10, r11, r12, r13, r14⟩ := hR
  have r13 := r13 h410
  show ok ((if R.i 15 = 0 then (f_X12_telling N R ((SK s t 4).i 63)).bind fun p14 => (if p14.1 = 0 then some p14.2 else (f_X12_need N p14.2 61).bind fun p17 => (f_X12_then N p17.2 1 16).bind fun p19 => some p19) else some R : Option RS).bind fun p => f_X12_parse_10 N n' p) P
  rw [if_pos r1.2.2.1]
  obtain ⟨p, ep, hq⟩ := TLG (t := t) hN r1 (tp_ib (u := SK s t 4) ht (show t < 1000 by omega))
  rw [ep]
  show ok ((if p.1 = 0 then some p.2 else (f_X12_need N p.2 61).bind fun p17 => (f_X12_then N p17.2 1 16).bind fun p19 => some p19 : Option RS).bind fun p => f_X12_parse_10 N n' p) P
  rcases hq with ⟨q1, q2, q3⟩ | ⟨q1, q2, q3, q4, q5, q6, q7, q8, q9⟩
  · rw [if_pos q1]
    exact lp_f q2 (hF _ (FS'.of r3.1.1 q3 q2 r1.r)) n1
  rw [if_neg (by rw [q1]; decide)]
  have mQ : MM t s p.2 := mR.step q2 q5 q4 q6 q3 (by omega) (by omega) (by omega)
  obtain ⟨w, ew, x1, x2⟩ := NDO hN q2 61 (by decide)
  rw [ew]
  show ok (((f_X12_then N w.2 1 16).bind fun p19 => some p19).bind fun p => f_X12_parse_10 N n' p) P
  have tw : tpI w.2 = t := x1.tp.trans mQ.2.1
  rw [p_th 1 16 tw (by omega)]
  show ok (f_X12_parse_10 N n' (TH w.2 t 1 16)) P
  rcases x2 with x2 | ⟨x2, x3, x4, x5, x6, x7⟩
  · exact lp_f (u := TH w.2 t 1 16) x2 (hF _ (FS'.th (FS'.of mQ.2.2.1.1.1 x1 x2 q2.r))) n1
  have mW : MM t s w.2 := mQ.lx x4 x1 x5 x6 x7
  have fw := x4.1.f0
  have ow : op w.2 = op s := mW.2.2.2.1.eOp
  refine CALL (hx (by omega)) x4 tw (by omega) (by omega) (by omega) (by omega) (fun u hu => hF u (FS'.kp mW.2.2.1 hu)) (fun m2 v hv hm2 => ?_)
  have hv' := hv
  obtain ⟨v1, v2, v3, v4, v5, v6, v7, v8, v9, v10, v11, v12⟩ := hv'
  have mV := mW.pc hv
  have fv := v1.1.f0
  have cv := v1.cd
  obtain ⟨m3, rfl⟩ : ∃ m3, m2 = m3 + 1 := ⟨m2 - 1, by omega⟩
  have push2 : ((m3 + 1 : Nat) : Int) = (m3 : Int) + 1 := by omega
  rw [push2] at hm2
  have wa : w.2.a = R.a := x1.1.trans q9
  have k64 : v.a 64 t = 4 := by rw [v12 64 (by omega) (by omega) (by omega), wa]; exact r11
  refine lp_4 v2 (by omega) v1.2.2.1 k64 ?_
  unfold f_X12_tell
  rw [if_pos (tp_ib v2 (by omega)), tp_nat v2, if_neg (by rw [v11]; decide)]
  obtain ⟨q, eq, qi, qa, ql, qt, qk, qn, qsl, qse⟩ := p_seq (N := N) (v.b 74 t) v1 mV.2.2.1 mV.snw hI.2.2.2.2.2.2.2.2.2.1.1
  rw [eq]
  show ok (((f_X12_emit N q 5 (v.i 42)).bind fun p5 => (f_X12_need N p5.2 59).bind fun p7 => (f_X12_over N p7.2 1).bind fun p9 => some p9).bind fun p => f_X12_parse_10 N m3 p) P
  have cq : cdI q = cdI v := by unfold cdI; rw [qi 20 (by decide) (by decide)]
  have fq : fr q = fr v := by unfold fr; rw [qi 11 (by decide) (by decide)]
  rw [p_em (u := q) 5 (v.i 42) (by omega) (by omega)]
  show ok (((f_X12_need N (EM q 5 (v.i 42)) 59).bind fun p7 => (f_X12_over N p7.2 1).bind fun p9 => some p9).bind fun p => f_X12_parse_10 N m3 p) P
  have cw : cdI w.2 = cdI s + 1 := by rw [x1.tbl.cd, q5.cd, r9]
  have slw : slI w.2 = slI s := by
    rw [x1.tbl.sl, q5.sl, xR.tbl.sl]
    rfl
  exact END (x := 1) hN (by omega) hI (Or.inr rfl) (by omega) (MID.tell hI mW hv cw (by omega) slw (by rw [wa]; exact r10) qi qa ql qt qk qn qsl) hF (fun W hW hfW => hC m3 W hW (by have hfW : fr q + 1 ≤ fr W := hfW; omega) (by have hfW : fr q + 1 ≤ fr W := hfW; omega))
