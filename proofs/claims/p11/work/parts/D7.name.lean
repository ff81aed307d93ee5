/-! reading: what begins with a name; log, return, yield, throw -/
theorem MM.emnx {N : Nat} (hN : 1000 ≤ N) {t : Nat} {s R : RS} {o x : Int32} (hI : INV s) (h : MM t s R) (hz : ¬ R.i 10 = 0) (hc : cdI R + 1 - cdI s ≤ 3 * (fr R + 1 - fr s)) : ∃ S, f_X12_next N (EM R o x) = some S ∧ MM t s S ∧ LX (EM R o x) S ∧ fr R + 1 ≤ fr S ∧ tkI S = tkI R + 1 ∧ cdI S = cdI R + 1 ∧ KP t R S := by
  obtain ⟨a1, a2, a3, a4, a5, a6, a7, a8⟩ := h
  have cs := hI.cd
  have cR := a1.cd
  obtain ⟨S, eS, x1, x2, x3, x4⟩ := p_nx hN (LXI.em (o := o) (x := x) a1.1)
  obtain ⟨r15, rc⟩ := x4 a1.2.2.1
  obtain ⟨c1, c2, c3⟩ := rc hz
  have c2 : fr R + 1 ≤ fr S := c2
  have hf := a1.1.f0
  have n12 := a1.tk
  have tk : tkI S = tkI R + 1 := tk_add (u := R) c1 ⟨n12.1, by omega⟩
  have kRS : KP t R S := ((KP.rf t R).em cR.1 cR.2.2).lx x1
  have kS : KP t s S := a3.tr kRS (Nat.le_refl _)
  have tS : TAB S := (a1.2.2.2.1.em cR.1 cR.2.2).lx x1
  have e := x1.tbl
  have ecd : cdI S = cdI R + 1 := e.cd.trans (EM.cd cR.1 cR.2.2)
  have rt : RATE s S := by
    have e2 : enI S = enI R := e.en
    have e3 : trI S = trI R := e.tt
    have e4 : caI S = caI R := e.ca
    have e5 : slI S = slI R := e.sl
    have e6 : peI S = peI R := e.pe
    unfold RATE at *
    omega
  have ss : SAME s S := a4.tr (x1.same x2)
  have e38 : S.i 38 = s.i 38 := x1.i38.trans a5
  exact ⟨S, eS, ⟨hI.mkS kS x1.2.2.2.1 r15 tS ss (SNW.eq e38 kS.2.2.2.2.2.1.2.1) rt (by omega) (by omega), x1.tp.trans a2, kS, ss, e38, rt, by omega, by omega⟩, x1, c2, tk, ecd, kRS⟩
/-- a name's slot: not a caught one's -/
def SLT (s : RS) (x : Int32) : Prop := ∃ j : Nat, (j : Int) < seI s ∧ x = s.a 40 j ∧ s.a 41 j = 0
theorem SLT.eq {s R : RS} {x : Int32} (h : SLT R x) (e : R.i 38 = s.i 38) (h40 : R.a 40 = s.a 40) (h41 : R.a 41 = s.a 41) : SLT s x := by
  obtain ⟨j, j1, j2, j3⟩ := h
  exact ⟨j, by unfold seI at *; rw [← e]; exact j1, by rw [← h40]; exact j2, by rw [← h41]; exact j3⟩
theorem SLT.ok {s : RS} {x : Int32} (h : SLT s x) (hI : INV s) : slotOK x.toInt ∧ ∀ g : Gh, (∀ y : Nat, (y : Int) < seI s → (g.isC (gv s 40 y).toNat = true ↔ ¬ s.a 41 y = 0)) → g.isC x.toInt.toNat = false := by
  obtain ⟨j, j1, j2, j3⟩ := h
  have tb := hI.2.2.2.1.2.2.2.2.1 j j1
  have nsl := hI.2.2.2.2.2.2.2.2.2.2.1
  have fv := hI.1.f0
  have e : x.toInt = gv s 40 j := by unfold gv; rw [j2]
  rw [e]
  refine ⟨⟨tb.1, by have := tb.2.1; omega⟩, fun g hg => ?_⟩
  cases hq : g.isC (gv s 40 j).toNat with
  | false => rfl
  | true => exact absurd j3 ((hg j j1).mp hq)
theorem GOT {N : Nat} (hN : 1000 ≤ N) {R : RS} (hI : INV R) (n : Int64) (w : Int32) : ∃ p, f_X12_got N R n w = some p ∧ (¬ p.2.i 15 = 0 ∧ LX R p.2 ∨ p.2 = R ∧ SLT R p.1) := by
  unfold f_X12_got
  have nse := hI.2.2.2.2.2.2.2.2.2.1
  have nsl := hI.2.2.2.2.2.2.2.2.2.2.1
  have hf := hI.1.f0
  obtain ⟨⟨p1, p2⟩, ep, e2, e3⟩ := p_sa hN n nse.1 (by omega)
  have e2 : p2 = R := e2
  subst e2
  rw [ep]
  have g22 : ∃ p, f_X12_got_22 N p2 w = some p ∧ (¬ p.2.i 15 = 0 ∧ LX p2 p.2 ∨ p.2 = p2 ∧ SLT p2 p.1) := by
    unfold f_X12_got_22
    obtain ⟨S, eS, r1, r2, r3⟩ := p_fl (N := N) hI.1 3 w (by decide)
    rw [eS]
    exact ⟨(-1, S), rfl, Or.inl ⟨r2, r1⟩⟩
  show ∃ p, (if p1 < 0 then f_X12_got_22 N p2 w else if ib p1 460 then (if (p2.a 41 ((p1 : Int32).toNatClampNeg)) = 0 then some ((p2.a 40 ((p1 : Int32).toNatClampNeg)), p2) else f_X12_got_22 N p2 w) else none) = some p ∧ _
  rcases e3 with h | ⟨h1, h2⟩
  · have h : p1 < 0 := by
      have h : ¬ 0 ≤ p1 := h
      rw [Int32.lt_iff_toInt_lt, z_t0]
      have : ¬ (0 : Int32).toInt ≤ p1.toInt := fun z => h (Int32.le_iff_toInt_le.mpr z)
      rw [z_t0] at this
      omega
    rw [if_pos h]
    exact g22
  · have h1 : 0 ≤ p1.toInt := h1
    have h2 : p1.toInt < seI p2 := h2
    have hn : ¬ p1 < 0 := fun c => by
      have := lt_int c
      rw [z_t0] at this
      omega
    rw [if_neg hn, if_pos (show ib p1 460 from ⟨h1, by omega⟩)]
    by_cases c : p2.a 41 p1.toNatClampNeg = 0
    · rw [if_pos c]
      exact ⟨_, rfl, Or.inr ⟨rfl, p1.toNatClampNeg, by rw [clampI h1]; exact h2, rfl, c⟩⟩
    · rw [if_neg c]
      exact g22
def SN (s : RS) (t : Nat) : RS := (s.setI 53 (s.i 53 + 1)).setA 64 t 5
/-- the end of x++; -/
theorem TS.inc {s W : RS} {x : Int32} (hI : INV s) (cW : cdI W = cdI s + 2) (e0 : W.a 21 (cdI s).toNat = 1) (e21 : W.a 21 (cdI s + 1).toNat = 6) (e22 : W.a 22 (cdI s + 1).toNat = x) (hx : SLT s x) (hr : W.i 75 = 1) : TS s W := by
  obtain ⟨h1, h2⟩ := hx.ok hI
  refine TS.i1 (o9 := 6) (x := x) hI.cd.1 cW e0 e21 e22 (by decide) (fun f C g h o lv rs hC hg hE g1 g2 ek => ?_)
  have hF : FL f g lv (((cdI s + 1).toNat : Int) + 1) (((cdI s + 1).toNat : Int) + 1) h o rs := by rw [ek]; exact hE.2.1 hr
  exact okJ_6 (c := (h, o, lv, false, rs)) g1 ⟨by rw [g2]; exact h1, by rw [g2]; exact h2 g hE.1.2, hF⟩
theorem lp_need {N m : Nat} {P : RS → Prop} {u : RS} {x : Int32} (h : ok (((f_X12_need N u 59).bind fun p => (f_X12_over N p.2 x).bind fun p => some p).bind fun p => f_X12_parse_10 N m p) P) : ok (((f_X12_need N u 59).bind fun p25 => (f_X12_over N p25.2 x).bind fun p27 => some p27).bind fun p => f_X12_parse_10 N m p) P := h
theorem e_nam183 {N : Nat} {u : RS} {x1 x5 : Int32} (c0 : 0 ≤ cdI u) (c3 : cdI u < 3000) : f_X12_named_183 N u x1 x5 = (if u.i 10 = 307 then f_X12_named_207 N (EM u 1 0) x1 x5 1 else f_X12_named_207 N (EM u 1 0) x1 x5 0) := by
  unfold f_X12_named_183
  rw [p_em 1 0 c0 c3]
  rfl
/-- a name that is given a value -/
theorem NAM1 {N b : Nat} (hN : 1000 ≤ N) (hx : 1 ≤ b → RUNE N 16 4 11 24 (b - 1)) {n : Nat} {s R : RS} {t : Nat} {P : RS → Prop} {x : Int32} (hI : INV s) (h9 : t < 998) (hb : 2 * (t : Int) ≤ fr s + 12 * op s + 2) (hc : 900 - fr s ≤ b) (hn : 36000 + 29 ≤ (n : Int) + 1 + 40 * fr s) (hF : ∀ u, FS' s u → P u) (hC : ∀ (m : Nat) (u : RS), PS t s u → fr s + 1 ≤ fr u → (n : Int) + 1 + 40 * fr s + 11 ≤ m + 40 * fr u → ok (f_X12_parse_10 N m u) P) (mR : MM t s R) (cR : cdI R = cdI s) (k64 : R.a 64 t = 5) (hxs : SLT s x) (ht : R.i 10 = 61 ∨ R.i 10 = 307) : ok ((f_X12_named_183 N R (R.i 63) x).bind fun p => f_X12_parse_10 N n p) P := by
  obtain ⟨a1, a2, a3, a4, a5, a6, a7, a8⟩ := id mR
  have cs := hI.cd
  have c0 := a1.cd
  have hf := hI.1.f0
  have hz : ¬ R.i 10 = 0 := by rcases ht with h | h <;> (rw [h]; decide)
  rw [e_nam183 c0.1 c0.2.2]
  obtain ⟨S, eS, mS, xS, s1, s2, s3, s4⟩ := MM.emnx (o := 1) (x := 0) hN hI mR hz (by omega)
  have fS := mS.1.1.f0
  have S21 : S.a 21 (cdI s).toNat = 1 := by rw [xS.1, EM.a21, if_pos (by rw [cR])]
  have tS : tpI S = t := mS.2.1
  have S64 : S.a 64 t = 5 := by rw [xS.1, EM.a (by decide) (by decide) (by decide)]; exact k64
  by_cases c : R.i 10 = 307
  · rw [if_pos c]
    unfold f_X12_named_207
    rw [eS]
    show ok ((if (1 : Int32) = 0 then (if ib (R.i 63) 1000 then (f_X12_then N (RS.setA S 66 ((R.i 63 : Int32).toNatClampNeg) x) 2 16).bind fun p21 => some p21 else none) else (f_X12_emit N S 6 x).bind fun p23 => (f_X12_need N p23.2 59).bind fun p25 => (f_X12_over N p25.2 1).bind fun p27 => some p27 : Option RS).bind fun p => f_X12_parse_10 N n p) P
    have cS := mS.1.cd
    rw [if_neg (by decide), p_em 6 x cS.1 cS.2.2]
    show ok (((f_X12_need N (EM S 6 x) 59).bind fun p25 => (f_X12_over N p25.2 1).bind fun p27 => some p27).bind fun p => f_X12_parse_10 N n p) P
    have eE := EM.cd (u := S) (o := 6) (x := x) cS.1 cS.2.2
    refine END (x := 1) hN (by omega) hI (Or.inr rfl) (by omega) (MID.em mS hI (by omega) (fun z => ?_)) hF (fun W hW hfW => hC n W hW (by have hfW : fr S + 1 ≤ fr W := hfW; omega) (by have hfW : fr S + 1 ≤ fr W := hfW; omega))
    refine TS.inc hI (W := (EM S 6 x).setI 75 1) (by show cdI (EM S 6 x) = _; omega) ?_ ?_ ?_ hxs rfl
    · show (EM S 6 x).a 21 (cdI s).toNat = 1
      rw [EM.a21, if_neg (by omega)]; exact S21
    · show (EM S 6 x).a 21 (cdI s + 1).toNat = 6
      rw [EM.a21, if_pos (by rw [s3, cR])]
    · show (EM S 6 x).a 22 (cdI s + 1).toNat = x
      rw [EM.a22, if_pos (by rw [s3, cR])]
  · rw [if_neg c]
    unfold f_X12_named_207
    rw [eS]
    show ok ((if (0 : Int32) = 0 then (if ib (R.i 63) 1000 then (f_X12_then N (RS.setA S 66 ((R.i 63 : Int32).toNatClampNeg) x) 2 16).bind fun p21 => some p21 else none) else (f_X12_emit N S 6 x).bind fun p23 => (f_X12_need N p23.2 59).bind fun p25 => (f_X12_over N p25.2 1).bind fun p27 => some p27 : Option RS).bind fun p => f_X12_parse_10 N n p) P
    rw [if_pos rfl, if_pos (tp_ib a2 (by omega)), tp_nat a2]
    have mT : MM t s (S.setA 66 t x) := mS.loc x (by omega) (by omega)
    have oT : op (S.setA 66 t x) = op s := mT.2.2.2.1.eOp
    rw [p_th 2 16 (u := S.setA 66 t x) tS (by omega)]
    show ok (f_X12_parse_10 N n (TH (S.setA 66 t x) t 2 16)) P
    have fT : fr (S.setA 66 t x) = fr S := rfl
    refine CALL (hx (by omega)) mT.1 tS (by omega) (by omega) (by omega) (by omega) (fun u hu => hF u (FS'.kp mT.2.2.1 hu)) (fun m2 v hv hm2 => ?_)
    have mV := mT.pc hv
    obtain ⟨v1, v2, v3, v4, v5, v6, v7, v8, v9, v10, v11, v12⟩ := hv
    have fv := v1.1.f0
    have cv := v1.cd
    obtain ⟨m3, rfl⟩ : ∃ m3, m2 = m3 + 1 := ⟨m2 - 1, by omega⟩
    have push2 : ((m3 + 1 : Nat) : Int) = (m3 : Int) + 1 := by omega
    rw [push2] at hm2
    refine lp_5 v2 (by omega) v1.2.2.1 ((v12 64 (by omega) (by omega) (by omega)).trans ((congrFun (setA_nk (by decide)) t).trans S64)) ?_
    have e66 : v.a 66 t = x := (v12 66 (by omega) (by omega) (by omega)).trans setA_at
    unfold f_X12_named
    rw [if_pos (tp_ib v2 (by omega)), tp_nat v2, if_neg (by rw [v11]; decide), if_pos v11, e66, p_em 5 x cv.1 cv.2.2]
    show ok (((f_X12_need N (EM v 5 x) 59).bind fun p25 => (f_X12_over N p25.2 1).bind fun p27 => some p27).bind fun p => f_X12_parse_10 N m3 p) P
    have eE := EM.cd (u := v) (o := 5) (x := x) cv.1 cv.2.2
    have cT : cdI (S.setA 66 t x) = cdI S := rfl
    have ra := mV.2.2.2.2.2.1
    have v7 : fr S + 1 ≤ fr v := v7
    refine END (x := 1) hN (by omega) hI (Or.inr rfl) (by omega) (MID.em mV hI (by unfold RATE at ra; omega) (fun z => ?_)) hF (fun W hW hfW => hC m3 W hW (by have hfW : fr v + 1 ≤ fr W := hfW; omega) (by have hfW : fr v + 1 ≤ fr W := hfW; omega))
    have lt := v3.2.1.1
    obtain ⟨h1, h2⟩ := hxs.ok hI
    refine TS.e1 (o9 := 5) (x := x) (W := (EM v 5 x).setI 75 1) mT.2.2.1 (v9 z) v3 v1.tn (((KP.rf t v).em cv.1 cv.2.2).i75 1) (Int.le_refl _) cs.1 (by omega) eE ?_ ?_ ?_ (by decide) mT.2.2.2.2.1 mT.2.2.2.1.2.2.1 mV.2.2.2.1.2.2.1 (by omega) v7 fv.2 (fun f C g h o lv rs hC' hg hy _ hE g1 g2 g3 ek2 => ?_)
    · show (EM v 5 x).a 21 (cdI s).toNat = 1
      rw [EM.a21, if_neg (by omega), v3.2.1.2.1 (cdI s).toNat (by omega)]
      exact S21
    · show (EM v 5 x).a 21 (cdI v).toNat = 5
      rw [EM.a21, if_pos rfl]
    · show (EM v 5 x).a 22 (cdI v).toNat = x
      rw [EM.a22, if_pos rfl]
    · have hF' : FL f g lv (((cdI v).toNat : Int) + 1) (((cdI v).toNat : Int) + 1) h o rs := by
        rw [ek2]; exact hE.2.1 rfl
      exact okJ_5 (c := (h + 1, o, lv, false, rs)) g1 ⟨by rw [g2]; exact h1, by rw [g2]; exact h2 g hE.1.2, by show 1 ≤ h + 1; omega, hF'⟩
