/-! reading: factors, relations, conditions -/
theorem p_sal {N : Nat} {σ : RS} (x : Int64) : ∀ (n : Nat) (k : Int32), -1 ≤ k.toInt → k.toInt < 460 → k.toInt + 2 ≤ n → ok (f_X12_seenAs_7 N n σ x k) (fun R => R.2 = σ ∧ (¬ 0 ≤ R.1 ∨ 0 ≤ R.1.toInt ∧ R.1.toInt ≤ k.toInt))
  | 0, k, h1, _, h3 => by omega
  | n + 1, k, h1, h2, h3 => by
    show ok (b_X12_seenAs_7 N (f_X12_seenAs_7 N n) σ x k) _
    unfold b_X12_seenAs_7
    refine ok_ite (fun c => ok_some ⟨rfl, Or.inl (show ¬ (0 : Int32) ≤ -1 by decide)⟩) (fun c => ?_)
    have h0 : 0 ≤ k.toInt := by
      have : ¬ k.toInt < (0 : Int32).toInt := fun z => c (Int32.lt_iff_toInt_lt.mpr z)
      rw [z_t0] at this
      omega
    refine ok_chk ⟨h0, by omega⟩ (ok_ite (fun _ => ok_some ⟨rfl, Or.inr ⟨h0, Int.le_refl _⟩⟩) (fun _ => ?_))
    have e1 : (-1 : Int32).toInt = -1 := by decide
    have ek : (k + -1).toInt = k.toInt - 1 := by rw [toInt_add] <;> rw [e1] <;> omega
    refine ok_imp (p_sal x n (k + -1) (by omega) (by omega) (by omega)) (fun R hR => ⟨hR.1, ?_⟩)
    rcases hR.2 with h | h
    · exact Or.inl h
    · exact Or.inr ⟨h.1, by omega⟩
theorem p_sa {N : Nat} (hN : 1000 ≤ N) {σ : RS} (x : Int64) (h0 : 0 ≤ seI σ) (h1 : seI σ ≤ 460) : ok (f_X12_seenAs N σ x) (fun R => R.2 = σ ∧ (¬ 0 ≤ R.1 ∨ 0 ≤ R.1.toInt ∧ R.1.toInt < seI σ)) := by
  have e1 : (1 : Int32).toInt = 1 := by decide
  have h0' : 0 ≤ (σ.i 38).toInt := h0
  have h1' : (σ.i 38).toInt ≤ 460 := h1
  have ek : (σ.i 38 - 1).toInt = (σ.i 38).toInt - 1 := by rw [toInt_sub] <;> rw [e1] <;> omega
  refine ok_imp (p_sal x N (σ.i 38 - 1) (by omega) (by omega) (by omega)) (fun R hR => ⟨hR.1, ?_⟩)
  rcases hR.2 with h | h
  · exact Or.inl h
  · exact Or.inr ⟨h.1, by show R.1.toInt < (σ.i 38).toInt; omega⟩
theorem can1 {N : Nat} {σ : RS} (h15 : σ.i 15 = 0) (h6 : ¬ σ.i 10 = 6) : f_X12_can N σ 1 = some (1, σ) := by
  rw [e_can, if_neg (fun z => z h15), if_neg (by rintro (z | z); exact absurd z (by decide); exact h6 z)]
theorem can0 {N : Nat} {σ : RS} (h : LXI σ) (h15 : σ.i 15 = 0) : ∃ R, f_X12_can N σ 0 = some (0, R) ∧ LX σ R ∧ ¬ R.i 15 = 0 := by
  obtain ⟨R, eR, h1, h2, h3⟩ := p_cn (N := N) h 0
  rcases h3 with ⟨h3, h4⟩ | ⟨h3, h4, h5, h6⟩
  · exact ⟨R.2, by rw [eR, ← h3], h1, h4⟩
  · exact absurd rfl h6
theorem TE.i1 {t : Nat} {s R : RS} {o9 x : Int32} (h0 : 0 ≤ cdI s) (hcd : cdI R = cdI s + 1) (e21 : R.a 21 (cdI s).toNat = o9) (e22 : R.a 22 (cdI s).toNat = x) (ho : ¬ o9 = 36) (hJ : ∀ (f : RS) (g : Gh) (h o v : Nat) (rs : List Rec), gv f 21 (cdI s).toNat = o9.toInt → gv f 22 (cdI s).toNat = x.toInt → (∀ y : Nat, (y : Int) < seI s → (g.isC (gv s 40 y).toNat = true ↔ ¬ s.a 41 y = 0)) → FL f g v (((cdI s).toNat : Int) + 1) (((cdI s).toNat : Int) + 1) (h + 1) o rs → OKI f g (cdI s).toNat (h, o, v, false, rs)) : TE s R := by
  intro f C hA hC h o v rs hx
  have ek : ((cdI s).toNat : Int) = cdI s := Int.toNat_of_nonneg h0
  obtain ⟨g1, g2, g3, g4⟩ := hA.cell (k := (cdI s).toNat) (by omega) (by omega) e21 e22 ho
  have c := CODS.ins (E := fun g => ENB s R f g v rs ∧ FL f g v (cdI R) (cdI R) (h + 1) o rs) (C := C) hx g4 (fun g _ hE => ?_)
  · rw [ek] at c
    exact c
  · obtain ⟨⟨e1, e2⟩, e3⟩ := hE
    rw [hcd, ← ek] at e3
    exact ⟨hJ f g h o v rs g1 g2 e2 e3, e1 _ (by omega)⟩
/-- one instruction, and the next token -/
theorem PM.em1 {N : Nat} (hN : 1000 ≤ N) {s : RS} {t : Nat} {o9 x : Int32} (hI : INV s) (ht : tpI s = t) (hz : ¬ s.i 10 = 0) (hte : ∀ R, cdI R = cdI s + 1 → R.a 21 (cdI s).toNat = o9 → R.a 22 (cdI s).toNat = x → TE s R) (hj : s.i 10 = 432 → o9 = 2 ∧ x = 1) : ∃ R, f_X12_next N (EM s o9 x) = some R ∧ PM t s R := by
  have cs := hI.cd
  obtain ⟨R, eR, x1, x2, x3, x4⟩ := p_nx hN (LXI.em (o := o9) (x := x) hI.1)
  obtain ⟨r15, rc⟩ := x4 hI.2.2.1
  obtain ⟨c1, c2, c3⟩ := rc hz
  have c2 : fr s + 1 ≤ fr R := c2
  have hf := hI.1.f0
  have n12 := hI.tk
  have tk : tkI R = tkI s + 1 := tk_add c1 ⟨n12.1, by omega⟩
  have kR : KP t s R := ((KP.rf t s).em cs.1 cs.2.2).lx x1
  have tR : TAB R := (hI.2.2.2.1.em cs.1 cs.2.2).lx x1
  have e := x1.tbl
  have ecd : cdI R = cdI s + 1 := e.cd.trans (EM.cd cs.1 cs.2.2)
  have a21 : R.a 21 (cdI s).toNat = o9 := by rw [x1.1, EM.a21, if_pos rfl]
  have a22 : R.a 22 (cdI s).toNat = x := by rw [x1.1, EM.a22, if_pos rfl]
  have rt : RATE s R := by
    have e2 : enI R = enI s := e.en
    have e3 : trI R = trI s := e.tt
    have e4 : caI R = caI s := e.ca
    have e5 : slI R = slI s := e.sl
    have e6 : peI R = peI s := e.pe
    unfold RATE
    omega
  have ss : SAME s R := x1.same x2
  have e38 : R.i 38 = s.i 38 := x1.i38
  have oo : op R = op s := by unfold op; rw [ss.1]
  have h20 := hI.op
  refine ⟨R, eR, hI.mk2 kR x1.2.2.2.1 r15 tR ⟨by omega, by omega⟩ ss.2.1 ss.2.2.1 ss.2.2.2 e38 rt (by omega) (by omega), x1.tp.trans ht, kR, ss, e38, rt, c2, by omega, fun _ => hte R ecd a21 a22, ⟨fun j _ => by rw [x1.1]; rfl, fun q _ => ?_⟩⟩
  obtain ⟨j1, j2⟩ := hj q
  exact ⟨ecd, by rw [a21, j1], by rw [a22, j2]⟩
theorem NUM.op1 {s : RS} {v : Int32} (h : NUM s) (hv : v.toInt = op s + 1) (h2 : op s + 1 ≤ 20) : NUM (s.setI 19 v) := by
  have e : op (s.setI 19 v) = op s + 1 := hv
  obtain ⟨b1, b2, b3, b4, b5, b6, b7, b8, b9, b10, b11, b12⟩ := h
  refine ⟨by rw [e]; omega, b2, b3, ?_, b5, b6, b7, b8, ?_, ?_, b11, b12⟩
  · show 0 ≤ trI s ∧ 6 * trI s ≤ fr s + 3 * op (s.setI 19 v)
    rw [e]; omega
  · show 0 ≤ deI s ∧ 4 * deI s ≤ fr s + 2 * op (s.setI 19 v) + 2
    rw [e]; omega
  · show 0 ≤ waI s ∧ waI s ≤ op (s.setI 19 v)
    rw [e]; omega
theorem op_add {s : RS} (h : INV s) : (s.i 19 + 1).toInt = op s + 1 := by
  have e1 : (1 : Int32).toInt = 1 := by decide
  have := h.op
  unfold op at *
  rw [toInt_add] <;> rw [e1] <;> omega
theorem TBL.i19 (u : RS) (v : Int32) : TBL u (u.setI 19 v) := ⟨fun _ _ => rfl, rfl, fun _ _ _ _ _ => if_neg (by omega)⟩
theorem INV.op1 {s : RS} (h : INV s) (h2 : s.i 19 + 1 ≤ 20) : INV (s.setI 19 (s.i 19 + 1)) := by
  have e := op_add h
  have h20 : (20 : Int32).toInt = 20 := by decide
  have h2 := le_int h2
  have t := h.2.2.2.1
  exact ⟨h.1, h.2.1, h.2.2.1, t.tbl (TBL.i19 s _) (fun γ hγ => (t.2.2.2.2.2.2.1 γ hγ).2) h.r, h.2.2.2.2.op1 e (by omega)⟩
/-- a sign that opens, and the next token: where the fault is none -/
theorem OPE {N : Nat} (hN : 1000 ≤ N) {s : RS} {t : Nat} (hI : INV s) (hz : ¬ s.i 10 = 0) (h2 : s.i 19 + 1 ≤ 20) : ∃ R, f_X12_next N (s.setI 19 (s.i 19 + 1)) = some R ∧ INV R ∧ tpI R = tpI s ∧ KP t s R ∧ TBL s R ∧ R.i 19 = s.i 19 + 1 ∧ op R = op s + 1 ∧ R.i 52 = s.i 52 ∧ fr s + 1 ≤ fr R ∧ tkI R = tkI s + 1 ∧ R.a = s.a := by
  have hI1 := hI.op1 h2
  obtain ⟨R, eR, x1, x2, x3, x4, x5, x6, x7⟩ := NX hN hI1 hz
  refine ⟨R, eR, x4, x1.tp, ((KP.rf t s).i19 _).lx x1, (TBL.i19 s _).tr x1.tbl, x3, ?_, x1.2.2.1 52 (by omega) (by omega), x5, x6, x1.1⟩
  unfold op
  rw [x3]
  exact op_add hI
theorem TE.tbl2 {s u : RS} {s' u' : RS} (h : TE s u) (hs : TBL s s') (hu : TBL u u') (hd : s'.i 52 = s.i 52) (hf : fr s' ≤ fr s) (hf9 : fr s ≤ 900) : TE s' u' := by
  intro f C hA hC h9 o v rs hx
  have hOPN : ∀ k : Nat, OPN u' k → OPN u k := fun k ⟨γ, b, L, x1, x2, x3⟩ => ⟨γ, b, L, by rw [hu.go] at x1; exact x1, by
    rw [hu.hd] at x2
    exact x2.of (fun y _ => ⟨by rw [hu.1 21 (by omega)], by rw [hu.1 22 (by omega)]⟩), x3⟩
  have hA' : AG0 s u f := by
    obtain ⟨a1, a2, a3, a4, a5, a6, a7, a8⟩ := hA
    rw [hu.cd] at a1
    rw [hu.en] at a2
    rw [hu.tt] at a3
    rw [hu.2.2 3 (by omega) (by omega) (by omega) (by omega)] at a4
    rw [hu.cd, hs.cd, hu.1 21 (by omega), hu.1 22 (by omega), hu.1 23 (by omega)] at a5
    rw [hu.en, hs.en, hu.1 26 (by omega), hu.1 27 (by omega), hu.1 28 (by omega)] at a6
    rw [hu.tt, hs.tt, hu.1 30 (by omega), hu.1 31 (by omega), hu.1 32 (by omega)] at a7
    rw [hu.ca, hs.ca, hu.1 35 (by omega), hu.1 36 (by omega), hu.1 37 (by omega)] at a8
    exact ⟨a1, a2, a3, a4, fun k k1 k2 => ⟨(a5 k k1 k2).1, (a5 k k1 k2).2.1, fun q => (a5 k k1 k2).2.2 (fun z => q (hOPN k z))⟩, a6, a7, a8⟩
  have hC' : AGC s u C := by
    intro x x1 x2
    have := hC x (by rw [hs.sl]; exact x1) (by rw [hu.sl]; exact x2)
    rw [this, hs.ca, hu.ca]
    constructor
    · rintro ⟨j, j1, j2, j3⟩; exact ⟨j, j1, j2, by rw [← j3, hu.g (by decide)]⟩
    · rintro ⟨j, j1, j2, j3⟩; exact ⟨j, j1, j2, by rw [← j3, hu.g (by decide)]⟩
  have hde : deI s' = deI s := by unfold deI; rw [hd]
  have hx' : CX s h9 o v rs := by
    obtain ⟨c1, c2, c3, c4, c5, c6, c7, c8⟩ := hx
    rw [hde] at c1 c8
    exact ⟨c1, by omega, by omega, by omega, by omega, c6, hf9, c8⟩
  have := h f C hA' hC' h9 o v rs hx'
  rw [hs.cd]
  refine this.imp (fun g _ hE => ?_)
  obtain ⟨⟨e1, e2⟩, e3⟩ := hE
  rw [hu.cd] at e1 e3
  refine ⟨⟨e1, fun x hx => ?_⟩, e3⟩
  have := e2 x (by rw [hs.se]; exact hx)
  rw [hs.g (by decide), hs.1 41 (by omega)] at this
  exact this
/-- a value, then an instruction that changes it -/
theorem TE.una {t : Nat} {s v : RS} {o9 x : Int32} (h : TE s v) (hk : KP t s v) (tn : TN v) (hc3 : cdI v < 3000) (hc0 : 0 ≤ cdI s) (hd : v.i 52 = s.i 52) (hf : fr s + 1 ≤ fr v) (f9 : fr v ≤ 900) (ho : o9 = 7 ∨ o9 = 10) : TE s (EM v o9 x) := by
  intro f C hA hC h' o v' rs hx
  have cv : 0 ≤ cdI v := by have := hk.2.1.1; omega
  have hkw : KP t v (EM v o9 x) := (KP.rf t v).em cv hc3
  have ew := EM.cd (o := o9) (x := x) cv hc3
  obtain ⟨A1, C1⟩ := AG.mid hA hC (KP.rf t s) hk hkw tn (Int.le_refl _)
  have c1 := h f C A1 C1 h' o v' rs hx
  have ek : ((cdI v).toNat : Int) = cdI v := Int.toNat_of_nonneg cv
  have hle := hk.2.1.1
  obtain ⟨g1, g2, g3, g4⟩ := hA.cell (k := (cdI v).toNat) (o := o9) (x := x) (by omega) (by omega) (by rw [EM.a21, if_pos rfl]) (by rw [EM.a22, if_pos rfl]) (by rcases ho with rfl | rfl <;> decide)
  have hx2 := hx.2.1
  have c3 : COD f C (cdI v).toNat (h' + 1) o v' rs (fun g => ENB s (EM v o9 x) f g v' rs ∧ FL f g v' (cdI (EM v o9 x)) (cdI (EM v o9 x)) (h' + 1) o rs) := by
    refine COD.ins (hx.up (h' + 1) hd (by omega) f9 (by omega)) g4 (fun g _ hE => ?_)
    obtain ⟨⟨e1, e2⟩, e3⟩ := hE
    refine ⟨?_, e1 _ (by omega)⟩
    rw [ew, ← ek] at e3
    have h2' : 1 ≤ Ctx.h (h' + 1, o, v', false, rs) := by show 1 ≤ h' + 1; omega
    rcases ho with rfl | rfl
    · exact okJ_7 (c := (h' + 1, o, v', false, rs)) g1 ⟨h2', e3⟩
    · exact okJ_10 (c := (h' + 1, o, v', false, rs)) g1 ⟨h2', e3⟩
  refine CODS.seq c1 c3 (fun g _ hE => hE) (fun g _ hE hF => ⟨hE.1.mid (KP.rf t s) rfl (by omega), by rw [ek] at hF; exact hF⟩)
/-- behind a sign that opened, a part, and what closes it -/
theorem PM.clo {t : Nat} {st : Int32} {s R v w : RS} (hI : INV s) (kR : KP t s R) (tb : TBL s R) (o1 : R.i 19 = s.i 19 + 1) (d : R.i 52 = s.i 52) (fR : fr s + 1 ≤ fr R) (tkR : tkI R = tkI s + 1) (hv : PC t st R v) (kw : KP t v w) (tw : TBL v w) (w15 : w.i 15 = 0) (wl : LXI w) (w52 : w.i 52 = v.i 52) (w75 : w.i 75 = v.i 75) (w63 : w.i 63 = v.i 63) (w19 : w.i 19 = v.i 19 - 1) (wf : fr v ≤ fr w) (wt : tkI v ≤ tkI w ∧ tkI w - tkI v ≤ fr w - fr v) : PM t s w := by
  obtain ⟨v1, v2, v3, v4, v5, v6, v7, v8, v9, v10, v11, v12⟩ := hv
  have ksv : KP t s v := kR.tr v3 (Nat.le_refl _)
  have ksw : KP t s w := ksv.tr kw (Nat.le_refl _)
  have R43 : R.i 43 = s.i 43 := tb.2.2 43 (by omega) (by omega) (by omega) (by omega)
  have R56 : R.i 56 = s.i 56 := tb.2.2 56 (by omega) (by omega) (by omega) (by omega)
  have R38 : R.i 38 = s.i 38 := tb.2.2 38 (by omega) (by omega) (by omega) (by omega)
  have w43 : w.i 43 = v.i 43 := tw.2.2 43 (by omega) (by omega) (by omega) (by omega)
  have w56 : w.i 56 = v.i 56 := tw.2.2 56 (by omega) (by omega) (by omega) (by omega)
  have w38 : w.i 38 = v.i 38 := tw.2.2 38 (by omega) (by omega) (by omega) (by omega)
  have e19 : w.i 19 = s.i 19 := by rw [w19, v4.1, o1, Int32.add_sub_cancel]
  have ss : SAME s w := ⟨e19, w43.trans (v4.2.1.trans R43), w52.trans (v4.2.2.1.trans d), w56.trans (v4.2.2.2.trans R56)⟩
  have e38 : w.i 38 = s.i 38 := w38.trans (v5.trans R38)
  have rt : RATE s w := ((tb.rate (by omega) (by omega)).tr v6).tr (tw.rate wf wt.2)
  have tab : TAB w := v1.2.2.2.1.tbl tw (fun γ hγ => by have e : deI w = deI v := by { unfold deI; rw [w52] }; rw [e]; exact (v1.2.2.2.1.2.2.2.2.2.2.1 γ hγ).2) (by rw [w75]; exact v1.r)
  have h20 := hI.op
  have oo : op w = op s := by unfold op; rw [e19]
  refine ⟨hI.mk2 ksw wl w15 tab ⟨by omega, by omega⟩ ss.2.1 ss.2.2.1 ss.2.2.2 e38 rt (by omega) (by omega), by unfold tpI at *; rw [w63]; exact v2, ksw, ss, e38, rt, by omega, by omega, fun z => ?_, ⟨?_, fun _ q => by omega⟩⟩
  · have z1 : ¬ 0 ≤ v.i 18 := fun q => z (kw.1.2 q)
    exact (v9 z1).tbl2 tb.sy tw d.symm (by omega) (by have := v1.1.f0; omega)
  · have gR := tb.go
    have gv' : goI v = goI R := by unfold goI; rw [v4.2.1]
    exact fun j hj => by rw [tw.1 46 (by omega), v10.1 j (by omega), tb.1 46 (by omega)]
theorem PM.em {t : Nat} {s w : RS} {o x : Int32} (h : PM t s w) (hI : INV s) (hc : cdI w + 1 - cdI s ≤ 3 * (fr w - fr s)) (hte : TE s w → TE s (EM w o x)) (hj : tkI s + 2 ≤ tkI w) : PM t s (EM w o x) := by
  obtain ⟨a1, a2, a3, a4, a5, a6, a7, a8, a9, a10⟩ := h
  have cw := a1.cd
  have cs := hI.cd
  have rt : RATE s (EM w o x) := a6.em cw.1 cw.2.2 hc
  have k : KP t s (EM w o x) := a3.em cs.1 cw.2.2
  have h20 := hI.op
  have oo : op w = op s := by unfold op; rw [a4.1]
  refine ⟨hI.mk2 k (LXI.em a1.1) a1.2.2.1 (a1.2.2.2.1.em cw.1 cw.2.2) ⟨by show op s ≤ op w; omega, by show op w ≤ 20; omega⟩ a4.2.1 a4.2.2.1 a4.2.2.2 a5 rt (by show fr s ≤ fr w; omega) (by show tkI s ≤ tkI w; omega), a2, k, a4, a5, rt, a7, a8, fun z => hte (a9 z), ⟨a10.1, fun _ q => ?_⟩⟩
  have q : tkI w = tkI s + 1 := q
  omega
/-- opens a sign: a fault, or all is well -/
theorem OPO {N : Nat} (hN : 1000 ≤ N) {s : RS} {t : Nat} (hI : INV s) (x : Int32) (hx : ¬ x = 0) : ∃ p, f_X12_open N s x = some p ∧ (¬ p.2.i 15 = 0 ∧ LX s p.2 ∧ p.1 = 0 ∨ p.2.i 15 = 0 ∧ p.1 = 1 ∧ s.i 10 = x ∧ INV p.2 ∧ tpI p.2 = tpI s ∧ KP t s p.2 ∧ TBL s p.2 ∧ p.2.i 19 = s.i 19 + 1 ∧ op p.2 = op s + 1 ∧ p.2.i 52 = s.i 52 ∧ fr s + 1 ≤ fr p.2 ∧ tkI p.2 = tkI s + 1 ∧ p.2.a = s.a ∧ LX s p.2) := by
  obtain ⟨p, ep, h1, h2, h3⟩ := p_op hN hI.1 x hx
  refine ⟨p, ep, ?_⟩
  rcases h2 with ⟨a, b⟩ | ⟨a, b⟩
  · exact Or.inl ⟨b, h1, a⟩
  · obtain ⟨c1, ⟨c2, c3, c4⟩, c5, c6⟩ := h3 b
    have tk := tk_add c2 ⟨hI.tk.1, by have := hI.1.f0; have := hI.tk; omega⟩
    have n := hI.tk
    have hR : INV p.2 := (hI.op1 c6).tbl ((TBL.i19 s _).sy.tr h1.tbl) h1.2.2.2.1 b c5 (h1.2.2.1 52 (by omega) (by omega)) (by rw [h1.2.2.1 75 (by omega) (by omega)]; exact hI.r) (by show fr s ≤ fr p.2; omega) ⟨by omega, by omega⟩
    exact Or.inr ⟨b, a, c1, hR, h1.tp, (KP.rf t s).lx h1, h1.tbl, c5, by unfold op; rw [c5]; exact op_add hI, h1.2.2.1 52 (by omega) (by omega), c3, tk, h1.1, h1⟩
/-- closes a sign -/
theorem SHO {N : Nat} (hN : 1000 ≤ N) {v : RS} (hI : INV v) (x : Int32) (hx : ¬ x = 0) : ∃ p, f_X12_shut N v x = some p ∧ LX v p.2 ∧ (¬ p.2.i 15 = 0 ∨ p.2.i 15 = 0 ∧ v.i 10 = x ∧ p.2.i 19 = v.i 19 - 1 ∧ fr v + 1 ≤ fr p.2 ∧ tkI p.2 = tkI v + 1) := by
  obtain ⟨p, ep, h1, h2, h3⟩ := p_sh hN hI.1 x hx
  refine ⟨p, ep, h1, ?_⟩
  rcases h2 with ⟨a, b⟩ | ⟨a, b⟩
  · exact Or.inl b
  · obtain ⟨c1, ⟨c2, c3, c4⟩, c5⟩ := h3 b
    exact Or.inr ⟨b, c1, c5, c3, tk_add c2 ⟨hI.tk.1, by have := hI.1.f0; have := hI.tk; omega⟩⟩
theorem PE.loc {t : Nat} {s u : RS} {k : Nat} {v : Int32} (h1 : 64 ≤ k) (h2 : k ≤ 73) (h : PE t (s.setA k t v) u) : PE t s u := by
  obtain ⟨a1, a2, a3, a4, a5, a6, a7, a8, a9, a10⟩ := h
  exact ⟨a1, a2, ((KP.rf t s).loc t v h1 h2 (Nat.le_refl _)).tr a3 (Nat.le_refl _), a4, a5, a6, a7, a8, fun z => (a9 z).tbl (TBL.loc s t v h1 h2).sy (TBL.rf u) rfl rfl, ⟨fun j hj => (a10.1 j hj).trans (congrFun (if_neg (by omega)) j), a10.2⟩⟩
def RUNA (N : Nat) (r q e : Int) (b : Nat) : Prop := ∀ (n : Nat) (s : RS) (t : Nat) (P : RS → Prop), INV s → tpI s = t → s.a 64 t = 19 → s.a 65 t = 0 → s.i 10 = 428 → 2 * (t : Int) ≤ fr s + 12 * op s + 2 * r → 900 - fr s ≤ b → 36000 + q ≤ n + 40 * fr s → (∀ u, FS' s u → P u) → (∀ (m : Nat) (u : RS), PE t s u → (n : Int) + 40 * fr s + e ≤ m + 40 * fr u → ok (f_X12_parse_10 N m u) P) → ok (f_X12_parse_10 N n s) P
theorem e_fac {N : Nat} {s : RS} {t : Nat} (hI : INV s) (ht : tpI s = t) (h9 : t < 1000) (h0 : s.a 65 t = 0) (hc : s.i 10 = 1 ∨ s.i 10 = 2 ∨ s.i 10 = 45 ∨ s.i 10 = 40 ∨ s.i 10 = 428) : f_X12_factor N s (s.i 63) = f_X12_factor_124 N s (s.i 63) := by
  have h6 : ¬ s.i 10 = 6 := by rcases hc with h | h | h | h | h <;> (rw [h]; decide)
  have cc : f_X12_can N s 1 = some (1, s) := can1 hI.2.2.1 h6
  unfold f_X12_factor
  rw [if_pos (tp_ib ht h9), tp_nat ht, if_neg (by rw [h0]; decide), if_neg (by rw [h0]; decide)]
  rw [cc]
  have z : (((some ((1 : Int32), s)).bind fun p5 => (if p5.1 = 0 then some p5.2 else f_X12_factor_124 N p5.2 (s.i 63))) : Option RS) = f_X12_factor_124 N s (s.i 63) := by
    show (if (1 : Int32) = 0 then some s else f_X12_factor_124 N s (s.i 63)) = _
    rw [if_neg (by decide)]
  rw [z]
  rcases hc with h | h | h | h | h
  · rw [if_pos h]
  · rw [if_neg (by rw [h]; decide), if_pos h]
  · rw [if_neg (by rw [h]; decide), if_neg (by rw [h]; decide), if_pos h]
  · rw [if_neg (by rw [h]; decide), if_neg (by rw [h]; decide), if_neg (by rw [h]; decide), if_pos h]
  · rw [if_neg (by rw [h]; decide), if_neg (by rw [h]; decide), if_neg (by rw [h]; decide), if_neg (by rw [h]; decide), if_pos h]
theorem e_facF {N : Nat} {s : RS} {t : Nat} (hI : INV s) (ht : tpI s = t) (h9 : t < 1000) (h0 : s.a 65 t = 0) (hc : ¬ (s.i 10 = 1 ∨ s.i 10 = 2 ∨ s.i 10 = 45 ∨ s.i 10 = 40 ∨ s.i 10 = 428)) : ∃ R, f_X12_factor N s (s.i 63) = some R ∧ LX s R ∧ ¬ R.i 15 = 0 := by
  obtain ⟨R, eR, h1, h2⟩ := can0 (N := N) hI.1 hI.2.2.1
  refine ⟨R, ?_, h1, h2⟩
  unfold f_X12_factor
  rw [if_pos (tp_ib ht h9), tp_nat ht, if_neg (by rw [h0]; decide), if_neg (by rw [h0]; decide), if_neg (fun h => hc (Or.inl h)), if_neg (fun h => hc (Or.inr (Or.inl h))), if_neg (fun h => hc (Or.inr (Or.inr (Or.inl h)))), if_neg (fun h => hc (Or.inr (Or.inr (Or.inr (Or.inl h))))), if_neg (fun h => hc (Or.inr (Or.inr (Or.inr (Or.inr h))))), eR]
  rfl
theorem e_fac1 {N : Nat} {v : RS} {t : Nat} (ht : tpI v = t) (h9 : t < 1000) (h0 : v.a 65 t = 1) (c0 : 0 ≤ cdI v) (c3 : cdI v < 3000) : f_X12_factor N v (v.i 63) = some ((EM (v.setI 19 (v.i 19 - 1)) 7 0).setI 63 (v.i 63 - 1)) := by
  unfold f_X12_factor
  rw [if_pos (tp_ib ht h9), tp_nat ht, if_pos h0, p_em (u := v.setI 19 (v.i 19 - 1)) 7 0 c0 c3]
  rfl
theorem e_fac2 {N : Nat} {v : RS} {t : Nat} (ht : tpI v = t) (h9 : t < 1000) (h0 : v.a 65 t = 2) : f_X12_factor N v (v.i 63) = (f_X12_shut N v 41).bind fun p60 => some (RS.setI p60.2 63 ((p60.2.i 63) - 1)) := by
  unfold f_X12_factor
  rw [if_pos (tp_ib ht h9), tp_nat ht, if_neg (by rw [h0]; decide), if_pos h0]
/-- a sign before a part: what is left when the part is read -/
theorem PM.una {t : Nat} {st : Int32} {s R v : RS} {o9 : Int32} (hI : INV s) (kR : KP t s R) (tb : TBL s R) (o1 : R.i 19 = s.i 19 + 1) (d : R.i 52 = s.i 52) (fR : fr s + 1 ≤ fr R) (tkR : tkI R = tkI s + 1) (hv : PC t st R v) (ho : o9 = 7 ∨ o9 = 10) : PM t s (EM (v.setI 19 (v.i 19 - 1)) o9 0) := by
  have hv' := hv
  obtain ⟨v1, v2, v3, v4, v5, v6, v7, v8, v9, v10, v11, v12⟩ := hv'
  have hw : PM t s (v.setI 19 (v.i 19 - 1)) := PM.clo hI kR tb o1 d fR tkR hv ((KP.rf t v).i19 _) (TBL.i19 v _) v1.2.2.1 v1.1 rfl rfl rfl rfl (Int.le_refl _) ⟨Int.le_refl _, by show tkI v - tkI v ≤ fr v - fr v; omega⟩
  have cs := hI.cd
  have cv := v1.cd
  have ec := tb.cd
  refine hw.em hI ?_ (fun te => ?_) (by show tkI s + 2 ≤ tkI v; omega)
  · show cdI v + 1 - cdI s ≤ 3 * (fr v - fr s)
    unfold RATE at v6
    omega
  · exact te.una hw.2.2.1 hw.1.tn cv.2.2 cs.1 hw.2.2.2.1.2.2.1 hw.2.2.2.2.2.2.1 v1.1.f0.2 ho
theorem PM.par {t : Nat} {st : Int32} {s R v w : RS} (hI : INV s) (kR : KP t s R) (tb : TBL s R) (o1 : R.i 19 = s.i 19 + 1) (d : R.i 52 = s.i 52) (fR : fr s + 1 ≤ fr R) (tkR : tkI R = tkI s + 1) (hv : PC t st R v) (hx : LX v w) (w15 : w.i 15 = 0) (w19 : w.i 19 = v.i 19 - 1) (wf : fr v + 1 ≤ fr w) (wt : tkI w = tkI v + 1) : PM t s w :=
  PM.clo hI kR tb o1 d fR tkR hv ((KP.rf t v).lx hx) hx.tbl w15 hx.2.2.2.1 (hx.2.2.1 52 (by omega) (by omega)) (hx.2.2.1 75 (by omega) (by omega)) hx.i63 w19 (by omega) ⟨by omega, by omega⟩
theorem run_factor {N b : Nat} (hN : 1000 ≤ N) (hf' : 1 ≤ b → RUNE N 18 6 5 30 (b - 1)) (hx' : 1 ≤ b → RUNE N 16 4 11 24 (b - 1)) (ha : RUNA N 6 4 31 b) : RUNE N 18 6 5 30 b := by
  intro n s t P hI ht hK hS hb hc hn hF hC
  have hf := hI.1.f0
  have hop := hI.op
  have cs := hI.cd
  have h9 : t < 998 := by omega
  obtain ⟨n', rfl⟩ : ∃ n', n = n' + 1 := ⟨n - 1, by omega⟩
  have push : ((n' + 1 : Nat) : Int) = (n' : Int) + 1 := by omega
  rw [push] at hn hC
  have n1 : 1 ≤ n' := by omega
  refine lp_18 ht (by omega) hI.2.2.1 hK ?_
  have flt : ∀ R, LX s R → ¬ R.i 15 = 0 → FS' s R := fun R h1 h2 => FS'.of (K1.rf s) h1 h2 hI.r
  by_cases hcc : s.i 10 = 1 ∨ s.i 10 = 2 ∨ s.i 10 = 45 ∨ s.i 10 = 40 ∨ s.i 10 = 428
  case neg =>
    obtain ⟨R, eR, h1, h2⟩ := e_facF (N := N) hI ht (by omega) hS hcc
    rw [eR]
    exact lp_f h2 (hF R (flt R h1 h2)) n1
  case pos =>
  rw [e_fac hI ht (by omega) hS hcc]
  unfold f_X12_factor_124
  by_cases c1 : s.i 10 = 1
  · rw [if_pos c1, p_em 2 (s.i 14) cs.1 cs.2.2]
    obtain ⟨R, eR, hR⟩ := PM.em1 (N := N) (o9 := 2) (x := s.i 14) hN hI ht (by rw [c1]; decide) (fun R r1 r2 r3 => TE.i1 (t := t) cs.1 r1 r2 r3 (by decide) (fun f g h o v rs g1 g2 g3 g4 => okJ_2 (c := (h, o, v, false, rs)) g1 g4.fp)) (fun q => by rw [c1] at q; exact absurd q (by decide))
    show ok (((f_X12_next N (EM s 2 (s.i 14))).bind fun p39 => some (RS.setI p39 63 ((p39.i 63) - 1))).bind fun p => f_X12_parse_10 N n' p) P
    rw [eR]
    have := hR.2.2.2.2.2.2.1
    exact hC n' _ (hR.pop (by omega)) (by show (n' : Int) + 1 + 40 * fr s + 30 ≤ n' + 40 * fr R; omega)
  rw [if_neg c1]
  by_cases c2 : s.i 10 = 2
  · rw [if_pos c2]
    have nse := hI.2.2.2.2.2.2.2.2.2.1
    have nsl := hI.2.2.2.2.2.2.2.2.2.2.1
    obtain ⟨⟨p1, p2⟩, ep, e2, e3⟩ := p_sa hN s.l nse.1 (by omega)
    have e2 : p2 = s := e2
    subst e2
    rw [ep]
    show ok ((if 0 ≤ p1 then _ else _ : Option RS).bind fun p => f_X12_parse_10 N n' p) P
    rcases e3 with h | ⟨h1, h2⟩
    · have h : ¬ 0 ≤ p1 := h
      rw [if_neg h]
      obtain ⟨R, eR, r1, r2, r3⟩ := p_fl (N := N) hI.1 3 (p2.i 11) (by decide)
      rw [eR]
      exact lp_f r2 (hF R (flt R r1 r2)) n1
    · have h1 : 0 ≤ p1.toInt := h1
      have h2 : p1.toInt < seI p2 := h2
      rw [if_pos (Int32.le_iff_toInt_le.mpr (by rw [z_t0]; exact h1)), if_pos (show ib p1 460 from ⟨h1, by omega⟩)]
      have ci := clampI h1
      have tb := hI.2.2.2.1.2.2.2.2.1 p1.toNatClampNeg (by rw [ci]; exact h2)
      have hz : ¬ p2.i 10 = 0 := by rw [c2]; decide
      have hso : slotOK (gv p2 40 p1.toNatClampNeg) := ⟨tb.1, by have := tb.2.1; omega⟩
      by_cases c41 : p2.a 41 p1.toNatClampNeg = 0
      · rw [if_pos c41, p_em 3 _ cs.1 cs.2.2]
        obtain ⟨R, eR, hR⟩ := PM.em1 (N := N) (o9 := 3) (x := p2.a 40 p1.toNatClampNeg) hN hI ht hz (fun R r1 r2 r3 => TE.i1 (t := t) cs.1 r1 r2 r3 (by decide) (fun f g h o v rs g1 g2 g3 g4 => okJ_3 (c := (h, o, v, false, rs)) g1 ⟨by rw [g2]; exact hso, g4⟩)) (fun q => by rw [c2] at q; exact absurd q (by decide))
        show ok (((f_X12_next N (EM p2 3 (p2.a 40 p1.toNatClampNeg))).bind fun p39 => some (RS.setI p39 63 ((p39.i 63) - 1))).bind fun p => f_X12_parse_10 N n' p) P
        rw [eR]
        have := hR.2.2.2.2.2.2.1
        exact hC n' _ (hR.pop (by omega)) (by show (n' : Int) + 1 + 40 * fr p2 + 30 ≤ n' + 40 * fr R; omega)
      · rw [if_neg c41, p_em 4 _ cs.1 cs.2.2]
        obtain ⟨R, eR, hR⟩ := PM.em1 (N := N) (o9 := 4) (x := p2.a 40 p1.toNatClampNeg) hN hI ht hz (fun R r1 r2 r3 => TE.i1 (t := t) cs.1 r1 r2 r3 (by decide) (fun f g h o v rs g1 g2 g3 g4 => okJ_4 (c := (h, o, v, false, rs)) g1 ⟨by rw [g2]; exact hso, by rw [g2]; exact (g3 p1.toNatClampNeg (by rw [ci]; exact h2)).mpr c41, g4⟩)) (fun q => by rw [c2] at q; exact absurd q (by decide))
        show ok (((f_X12_next N (EM p2 4 (p2.a 40 p1.toNatClampNeg))).bind fun p39 => some (RS.setI p39 63 ((p39.i 63) - 1))).bind fun p => f_X12_parse_10 N n' p) P
        rw [eR]
        have := hR.2.2.2.2.2.2.1
        exact hC n' _ (hR.pop (by omega)) (by show (n' : Int) + 1 + 40 * fr p2 + 30 ≤ n' + 40 * fr R; omega)
  rw [if_neg c2]
  by_cases c45 : s.i 10 = 45
  · rw [if_pos c45]
    obtain ⟨p, ep, q1, q2, q3⟩ := p_os (N := N) hI.1
    rw [ep]
    show ok ((if p.1 = 0 then _ else _ : Option RS).bind fun p => f_X12_parse_10 N n' p) P
    rcases q2 with ⟨q2, q4⟩ | ⟨q2, q4⟩
    · rw [if_pos q2]
      exact lp_f q4 (hF _ (flt _ q1 q4)) n1
    · rw [if_neg (by rw [q2]; decide)]
      obtain ⟨q5, q6, q7⟩ := q3 q4
      obtain ⟨R, eR, r1, r2, r3, r4, r5, r6, r7, r8, r9, r10⟩ := OPE (t := t) hN hI (by rw [c45]; decide) q6
      rw [q7, eR]
      show ok (((f_X12_then N R 1 18).bind fun p => some p).bind fun p => f_X12_parse_10 N n' p) P
      rw [p_th 1 18 (r2.trans ht) (by omega)]
      show ok (f_X12_parse_10 N n' (TH R t 1 18)) P
      have rf := r1.1.f0
      refine CALL (hf' (by omega)) r1 (r2.trans ht) (by omega) (by omega) (by omega) (by omega) (fun u hu => hF u (FS'.kp r3 hu)) (fun m2 v hv hm2 => ?_)
      have hv' := hv
      obtain ⟨v1, v2, v3, v4, v5, v6, v7, v8, v9, v10, v11, v12⟩ := hv'
      have fv := v1.1.f0
      obtain ⟨m3, rfl⟩ : ∃ m3, m2 = m3 + 1 := ⟨m2 - 1, by omega⟩
      have cv := v1.cd
      refine lp_18 v2 (by omega) v1.2.2.1 (by rw [v12 64 (by omega) (by omega) (by omega), r10]; exact hK) ?_
      rw [e_fac1 v2 (by omega) v11 cv.1 cv.2.2]
      have hw := PM.una (o9 := 7) hI r3 r4 r5 r7 r8 r9 hv (Or.inl rfl)
      exact hC m3 _ (hw.pop (by omega)) (by show (n' : Int) + 1 + 40 * fr s + 30 ≤ m3 + 40 * fr v; omega)
  rw [if_neg c45]
  by_cases c40 : s.i 10 = 40
  · rw [if_pos c40]
    obtain ⟨p, ep, hp⟩ := OPO (t := t) hN hI 40 (by decide)
    rw [ep]
    show ok (((f_X12_then N p.2 2 16).bind fun p => some p).bind fun p => f_X12_parse_10 N n' p) P
    rcases hp with ⟨p1, p2, p3⟩ | ⟨p1, p2, p3, r1, r2, r3, r4, r5, r6, r7, r8, r9, r10, r11⟩
    · rw [p_th 2 16 (p2.tp.trans ht) (by omega)]
      exact lp_f (u := TH p.2 t 2 16) p1 (hF _ (FS'.th (flt _ p2 p1))) n1
    · rw [p_th 2 16 (r2.trans ht) (by omega)]
      show ok (f_X12_parse_10 N n' (TH p.2 t 2 16)) P
      have rf := r1.1.f0
      refine CALL (hx' (by omega)) r1 (r2.trans ht) (by omega) (by omega) (by omega) (by omega) (fun u hu => hF u (FS'.kp r3 hu)) (fun m2 v hv hm2 => ?_)
      have hv' := hv
      obtain ⟨v1, v2, v3, v4, v5, v6, v7, v8, v9, v10, v11, v12⟩ := hv'
      have fv := v1.1.f0
      obtain ⟨m3, rfl⟩ : ∃ m3, m2 = m3 + 1 := ⟨m2 - 1, by omega⟩
      refine lp_18 v2 (by omega) v1.2.2.1 (by rw [v12 64 (by omega) (by omega) (by omega), r10]; exact hK) ?_
      rw [e_fac2 v2 (by omega) v11]
      obtain ⟨w, ew, x1, x2⟩ := SHO hN v1 41 (by decide)
      rw [ew]
      show ok (f_X12_parse_10 N m3 (w.2.setI 63 (w.2.i 63 - 1))) P
      rcases x2 with x2 | ⟨x2, x3, x4, x5, x6⟩
      · exact lp_f (u := w.2.setI 63 (w.2.i 63 - 1)) x2 (hF _ ((FS'.of (r3.tr v3 (Nat.le_refl _)).1.1 x1 x2 v1.r).i63 _)) (by omega)
      · have hw := PM.par hI r3 r4 r5 r7 r8 r9 hv x1 x2 x4 x5 x6
        exact hC m3 _ (hw.pop (by omega)) (by show (n' : Int) + 1 + 40 * fr s + 30 ≤ m3 + 40 * fr w.2; omega)
  rw [if_neg c40, if_pos (tp_ib ht (by omega)), tp_nat ht]
  have c428 : s.i 10 = 428 := by
    rcases hcc with h | h | h | h | h
    · exact absurd h c1
    · exact absurd h c2
    · exact absurd h c45
    · exact absurd h c40
    · exact h
  show ok (f_X12_parse_10 N n' (s.setA 64 t 19)) P
  refine ha n' (s.setA 64 t 19) t P (hI.loc t 19 (by omega) (by omega)) ht (if_pos rfl) hS c428 hb hc (by show 36000 + (4 : Int) ≤ n' + 40 * fr s; omega) (fun u hu => hF u (FS'.kp ((KP.rf t s).loc (k := 64) t 19 (by omega) (by omega) (Nat.le_refl _)) hu)) (fun m u hu hm => ?_)
  exact hC m u (hu.loc (by omega) (by omega)) (by have hm : (n' : Int) + 40 * fr s + 31 ≤ m + 40 * fr u := hm; omega)
