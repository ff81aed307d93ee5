/-! reading: break and continue: to the end -/
theorem LXI.of {u w : RS} (h : LXI u) (h2 : w.i 2 = u.i 2) (h10 : w.i 10 = u.i 10) (h11 : w.i 11 = u.i 11) (h12 : w.i 12 = u.i 12) (h14 : w.i 14 = u.i 14) (hb : w.b 9 = u.b 9) : LXI w := by
  unfold LXI WD at *
  rw [h2, h10, h11, h12, h14, hb]
  exact h
theorem MI0.lx {t : Nat} {s u w : RS} (h : MI0 t s u) (x : LX u w) (h15 : w.i 15 = 0) (h19 : w.i 19 = u.i 19) (hf : fr u + 1 ≤ fr w) (tk : tkI w = tkI u + 1) : MI0 t s w := by
  obtain ⟨a1, a2, a3, a4, a5, a6, a7, a8, a9, a10⟩ := h
  have e := x.tbl
  have e1 := e.cd
  have e2 := e.en
  have e3 := e.tt
  have e4 := e.ca
  have e5 := e.sl
  have e6 := e.pe
  refine ⟨x.2.2.2.1, h15, a3.lx x, x.tp.trans a4, a5.lx x, a6.tr (x.same h19), ⟨?_, fun y y1 y2 => ?_⟩, ?_, by omega, by omega⟩
  · have := a7.1; have := e.se; omega
  · rw [e.g (by decide)]
    exact a7.2 y y1 (by have := e.se; omega)
  · unfold RAT1 at *
    omega
theorem STA55 {N : Nat} (hN : 1000 ≤ N) {s u : RS} {t : Nat} {K y : Int32} (hI : INV s) (ht : tpI s = t) (hz : ¬ s.i 10 = 0) (hu : SKF s u t K) : ∃ R, f_X12_next N (u.setI 55 y) = some R ∧ MK t K s R ∧ R.a = u.a ∧ R.i 59 = s.i 59 := by
  obtain ⟨ul, ui0, ut, uk, uc, u21, u64, u65, ua⟩ := hu
  obtain ⟨w, hw⟩ : ∃ w, w = u.setI 55 y := ⟨_, rfl⟩
  have wi : ∀ j : Nat, j ≠ 20 → j ≠ 53 → j ≠ 55 → w.i j = s.i j := fun j h1 h2 h3 => by rw [hw]; exact (if_neg h3).trans (ui0 j h1 h2)
  have wa : w.a = u.a := by rw [hw]; rfl
  have wl : LXI w := by rw [hw]; exact ul
  have tb : TBL u w := by rw [hw]; exact ⟨fun _ _ => rfl, rfl, fun _ _ _ _ _ => if_neg (by omega)⟩
  have wt : TAB w := ut.tbl tb (fun γ hγ => by
    have e : deI w = deI u := by unfold deI; rw [wi 52 (by decide) (by decide) (by decide), ui0 52 (by decide) (by decide)]
    rw [e]; exact (ut.2.2.2.2.2.2.1 γ hγ).2) (by rw [wi 75 (by decide) (by decide) (by decide)]; exact hI.r)
  have wk : KP t s w := by rw [hw]; exact uk.i55 y
  have wc : cdI w = cdI s + 1 := tb.cd.trans uc
  rw [← hw]
  obtain ⟨R, eR, x1, x2, x3, x4⟩ := p_nx hN wl
  obtain ⟨r15, rc⟩ := x4 ((wi 15 (by decide) (by decide) (by decide)).trans hI.2.2.1)
  obtain ⟨c1, c2, c3⟩ := rc (fun z => hz ((wi 10 (by decide) (by decide) (by decide)).symm.trans z))
  have fu : fr w = fr s := by unfold fr; rw [wi 11 (by decide) (by decide) (by decide)]
  have u10 : w.i 10 = s.i 10 := wi 10 (by decide) (by decide) (by decide)
  have hf := hI.1.f0
  have n12 := hI.tk
  have tk : tkI R = tkI s + 1 := tk_add (u := s) (c1.trans (congrArg (· + 1) (wi 17 (by decide) (by decide) (by decide)))) ⟨n12.1, by omega⟩
  have kR : KP t s R := wk.lx x1
  have tR : TAB R := wt.lx x1
  have e := x1.tbl
  have ecd : cdI R = cdI s + 1 := e.cd.trans wc
  have rt : RATE s R := by
    have e2 : enI R = enI s := by rw [e.en]; unfold enI; rw [wi 24 (by decide) (by decide) (by decide)]
    have e3 : trI R = trI s := by rw [e.tt]; unfold trI; rw [wi 29 (by decide) (by decide) (by decide)]
    have e4 : caI R = caI s := by rw [e.ca]; unfold caI; rw [wi 33 (by decide) (by decide) (by decide)]
    have e5 : slI R = slI s := by rw [e.sl]; unfold slI; rw [wi 42 (by decide) (by decide) (by decide)]
    have e6 : peI R = peI s := by rw [e.pe]; unfold peI; rw [wi 59 (by decide) (by decide) (by decide)]
    unfold RATE
    omega
  have ss : SAME s R := SAME.tr (show SAME s w from ⟨wi 19 (by decide) (by decide) (by decide), wi 43 (by decide) (by decide) (by decide), wi 52 (by decide) (by decide) (by decide), wi 56 (by decide) (by decide) (by decide)⟩) (x1.same x2)
  have e38 : R.i 38 = s.i 38 := x1.i38.trans (wi 38 (by decide) (by decide) (by decide))
  have tp : tpI R = t := x1.tp.trans ((congrArg Int32.toInt (wi 63 (by decide) (by decide) (by decide))).trans ht)
  have aR : R.a = u.a := x1.1.trans wa
  exact ⟨R, eR, ⟨hI.mkS kR x1.2.2.2.1 r15 tR ss (SNW.eq e38 kR.2.2.2.2.2.1.2.1) rt (by omega) (by omega), tp, kR, ss, e38, rt, by omega, tk, ecd, by rw [aR]; exact u21, by rw [aR]; exact u64, by rw [aR]; exact u65, fun q => by have := c3 (Or.inl (by rw [u10]; exact q)); omega, fun k h1 h2 h3 h4 => by rw [aR]; exact ua k h1 h2 h3 h4⟩, aR, (x1.2.2.1 59 (by omega) (by omega)).trans (wi 59 (by decide) (by decide) (by decide))⟩
/-- a step and a jump -/
theorem TS.jump {s W : RS} {γ : Nat} {b : Bool} (h0 : 0 ≤ cdI s) (cW : cdI W = cdI s + 2) (e0 : W.a 21 (cdI s).toNat = 1) (e21 : W.a 21 (cdI s + 1).toNat = 36) (e23 : W.a 23 (cdI s + 1).toNat = W.a 47 γ) (hacc : ACC W γ) (hb : b = true ∨ W.a 44 γ = 0) (hst : SITE s W γ b (cdI s + 1).toNat) (harv : ARV W γ b) (h6 : 0 ≤ gv W 47 γ ∧ gv W 47 γ ≤ deI s) : TS s W := by
  intro f C hA hC h o lv rs hx hy
  have ek : ((cdI s + 1).toNat : Int) = cdI s + 1 := Int.toNat_of_nonneg (by omega)
  obtain ⟨a1, a2, a3, a4, a5, a6, a7, a8⟩ := id hA
  obtain ⟨g1, g2, g3⟩ := a5 (cdI s + 1).toNat (by omega) (by omega)
  have c3 : COD f C (cdI s + 1).toNat h o lv rs (ENS s W f h o lv rs) := by
    refine COD.ins hx (by omega) (fun g hg' hE => ⟨?_, hE.1.1 _ (by omega)⟩)
    obtain ⟨vt, j1, j2, j3⟩ := hE.2.2 γ b (cdI s + 1).toNat hacc hb hst
    have ey : gv f 23 (cdI s + 1).toNat = gv W 47 γ := by unfold gv; rw [g2, e23]
    refine okJ_36 (c := (h, o, lv, false, rs)) (by unfold gv; rw [g1, e21]; rfl) ⟨by rw [ey]; exact h6.1, ?_⟩
    rw [ey]
    have hd := hx.1
    refine ⟨by show (gv W 47 γ).toNat ≤ rs.length; omega, vt, ?_, j2, fun q => ?_⟩
    · rw [cW] at j1
      show vt < lv ∨ vt ≤ lv ∧ ((cdI s + 1).toNat : Int) + 1 ≤ gv f 22 (cdI s + 1).toNat
      rcases j1 with j1 | j1
      · exact Or.inl j1
      · exact Or.inr ⟨j1.1, by omega⟩
    · exact j3 harv q
  rw [ek] at c3
  exact COD.step hA hx h0 (by omega) e0 (fun g _ hE => hE.1.1) c3
theorem e_j234 {N : Nat} {R : RS} {x3 x4 : Int32} {γ : Nat} {b : Bool} (hx : x4.toInt = γ) (h4 : (γ : Int) < 460) (c0 : 0 ≤ cdI R) (c3 : cdI R < 3000) : f_X12_jump_234 N R (b01 b) x3 x4 = f_X12_jump_302 N (((EM R 36 (R.a (bk b) γ)).setA 23 (cdI R).toNat (R.a 47 γ)).setA (bk b) γ (R.i 20)) (b01 b) x3 x4 := by
  have en : x4.toNatClampNeg = γ := by
    show x4.toInt.toNat = γ
    rw [hx]; exact Int.toNat_natCast _
  have hib : ib x4 460 := ⟨by omega, by omega⟩
  have hk : ib (R.i 20) 3000 := ⟨c0, c3⟩
  unfold f_X12_jump_234
  rw [en, if_pos hib, if_pos hib]
  cases b
  · show (if (0 : Int32) = 0 then (f_X12_emit N R 36 (R.a 49 γ)).bind fun p10 => f_X12_jump_263 N p10.2 0 x3 x4 p10.1 else _) = _
    rw [if_pos rfl, p_em 36 (R.a 49 γ) c0 c3]
    show f_X12_jump_263 N (EM R 36 (R.a 49 γ)) 0 x3 x4 (R.i 20) = _
    unfold f_X12_jump_263
    rw [if_pos hib, if_pos hk, if_pos rfl, en]
    rfl
  · show (if (1 : Int32) = 0 then _ else (f_X12_emit N R 36 (R.a 48 γ)).bind fun p23 => f_X12_jump_263 N p23.2 1 x3 x4 p23.1) = _
    rw [if_neg (by decide), p_em 36 (R.a 48 γ) c0 c3]
    show f_X12_jump_263 N (EM R 36 (R.a 48 γ)) 1 x3 x4 (R.i 20) = _
    unfold f_X12_jump_263
    rw [if_pos hib, if_pos hk, if_neg (by decide), en]
    rfl
/-- from the goal that was found, to the statement's end -/
theorem JMP2 {N : Nat} (hN : 1000 ≤ N) {n : Nat} {s R : RS} {t : Nat} {P : RS → Prop} {x3 x4 : Int32} {γ : Nat} {b : Bool} (hI : INV s) (h9 : t < 998) (n1 : 1 ≤ n) (hF : ∀ u, FS' s u → P u) (hC : ∀ W, PS t s W → fr s + 1 ≤ fr W → fr R + 1 ≤ fr W → ok (f_X12_parse_10 N n W) P) (hR : MK t 2 s R) (h59 : R.i 59 = s.i 59) (f2 : fr s + 2 ≤ fr R) (hx : x4.toInt = γ) (hacc : ACC R γ) (hb : b = true ∨ R.a 44 γ = 0) (hx3 : ¬ x3 = 0 → R.i 10 = 2) : ok (((f_X12_jump_234 N R (b01 b) x3 x4).bind fun p13 => (f_X12_over N p13 0).bind fun p15 => some p15).bind fun p => f_X12_parse_10 N n p) P := by
  have mR := hR.mm
  obtain ⟨r1, r2, r3, r4, r5, r6, r7, r8, r9, r10, r11, r12, r13, r14⟩ := hR
  have cR := r1.cd
  have cs := hI.cd
  have rf := r1.1.f0
  obtain ⟨nn1, nn2, nn3, nn4, nn5, nn6, nn7, nn8, nn9, nn10, nn11, nn12⟩ := r1.2.2.2.2
  have hγ := hacc.1
  have pes : peI R = peI s := by unfold peI; rw [h59]
  have spe := hI.2.2.2.2.2.2.2.2.2.2.2.2.2.2.1
  rw [e_j234 hx (by omega) cR.1 cR.2.2]
  have jq : JQ R (((EM R 36 (R.a (bk b) γ)).setA 23 (cdI R).toNat (R.a 47 γ)).setA (bk b) γ (R.i 20)) γ b := JQ.mk cR.1 cR.2.2
  generalize (((EM R 36 (R.a (bk b) γ)).setA 23 (cdI R).toNat (R.a 47 γ)).setA (bk b) γ (R.i 20)) = q at jq ⊢
  have kq : KP t s q := jq.kp r3 cs.1 r1.tn
  have tq : TAB q := jq.tab r1.2.2.2.1 cR.1 hγ
  have qi : ∀ j : Nat, j ≠ 20 → q.i j = R.i j := jq.1
  have eqw : waI q = waI R := by unfold waI; rw [qi 56 (by decide)]
  have eqp : peI q = peI R := by unfold peI; rw [qi 59 (by decide)]
  unfold f_X12_jump_302
  obtain ⟨q', eq', w1, w2, w3, w4, w5, w6, w7, w8⟩ := p_pd (N := N) (b := b) kq tq hx (by omega) (by omega) (by omega) (by omega) (by omega)
  rw [eq']
  have qi' : ∀ j : Nat, j ≠ 20 → j ≠ 59 → q'.i j = R.i j := fun j e1 e2 => (w1 j e2).trans (qi j e1)
  have cq : cdI q' = cdI R + 1 := by
    have : cdI q' = cdI q := by unfold cdI; rw [w1 20 (by decide)]
    rw [this]; exact jq.2.1
  have goQ : goI q' = goI R := by unfold goI; rw [qi' 43 (by decide) (by decide)]
  have deQ : deI q' = deI R := by unfold deI; rw [qi' 52 (by decide) (by decide)]
  have frQ : fr q' = fr R := by unfold fr; rw [qi' 11 (by decide) (by decide)]
  have tkQ : tkI q' = tkI R := by unfold tkI; rw [qi' 17 (by decide) (by decide)]
  have bne : ∀ k : Nat, k ≠ 21 → k ≠ 22 → k ≠ 23 → k ≠ 48 → k ≠ 49 → q.a k = R.a k := fun k e1 e2 e3 e4 e5 => jq.2.2.1 k e1 e2 e3 (by rcases bk_cases b with e | e <;> rw [e] <;> assumption)
  have q44 : q'.a 44 = R.a 44 := (w2 44 (by decide) (by decide) (by decide) (by decide) (by decide)).trans (bne 44 (by decide) (by decide) (by decide) (by decide) (by decide))
  have q47 : q'.a 47 = R.a 47 := (w2 47 (by decide) (by decide) (by decide) (by decide) (by decide)).trans (bne 47 (by decide) (by decide) (by decide) (by decide) (by decide))
  have m0 : MI0 t s q' := by
    refine ⟨r1.1.of (qi' 2 (by decide) (by decide)) (qi' 10 (by decide) (by decide)) (qi' 11 (by decide) (by decide)) (qi' 12 (by decide) (by decide)) (qi' 14 (by decide) (by decide)) (by rw [w3, jq.2.2.2.2.2.2.2.2.2]), (qi' 15 (by decide) (by decide)).trans r1.2.2.1, w7, by unfold tpI at *; rw [qi' 63 (by decide) (by decide)]; exact r2, w6, r4.tr ⟨qi' 19 (by decide) (by decide), qi' 43 (by decide) (by decide), qi' 52 (by decide) (by decide), qi' 56 (by decide) (by decide)⟩, SNW.eq ((qi' 38 (by decide) (by decide)).trans r5) w6.2.2.2.2.2.1.2.1, ?_, by omega, by omega⟩
    have e2 : enI q' = enI R := by unfold enI; rw [qi' 24 (by decide) (by decide)]
    have e3 : trI q' = trI R := by unfold trI; rw [qi' 29 (by decide) (by decide)]
    have e4 : caI q' = caI R := by unfold caI; rw [qi' 33 (by decide) (by decide)]
    have e5 : slI q' = slI R := by unfold slI; rw [qi' 42 (by decide) (by decide)]
    unfold RATE at r6
    unfold RAT1
    rw [cq, e2, e3, e4, e5, frQ, tkQ]
    omega
  have kk : (cdI s + 1).toNat = (cdI R).toNat := by rw [r9]
  have q21 : q'.a 21 = q.a 21 := w2 21 (by decide) (by decide) (by decide) (by decide) (by decide)
  have q22 : q'.a 22 = q.a 22 := w2 22 (by decide) (by decide) (by decide) (by decide) (by decide)
  have q23 : q'.a 23 = q.a 23 := w2 23 (by decide) (by decide) (by decide) (by decide) (by decide)
  obtain ⟨L, l1, l2⟩ := r1.tn γ b hγ
  have isq := jq.me cR.1 l1 l2
  have hdq : hd q' b γ = hd q b γ := by
    unfold hd gv
    rw [w2 (bk b) (by rcases bk_cases b with e | e <;> rw [e] <;> decide) (by rcases bk_cases b with e | e <;> rw [e] <;> decide) (by rcases bk_cases b with e | e <;> rw [e] <;> decide) (by rcases bk_cases b with e | e <;> rw [e] <;> decide) (by rcases bk_cases b with e | e <;> rw [e] <;> decide)]
  have t6 := r1.2.2.2.1.2.2.2.2.2.2.1 γ hγ
  have fin : ∀ X : RS, MI0 t s X → X.a = q'.a → X.i 43 = q'.i 43 → X.i 20 = q'.i 20 → ARV X γ b → fr R ≤ fr X → ok (((f_X12_jump_317 N X).bind fun p13 => (f_X12_over N p13 0).bind fun p15 => some p15).bind fun p => f_X12_parse_10 N n p) P := by
    intro X mX aX x43 x20 arX fX
    unfold f_X12_jump_317
    have ea : (((f_X12_need N X 59).bind fun p18 => some p18.2).bind fun p13 => (f_X12_over N p13 0).bind fun p15 => some p15) = (f_X12_need N X 59).bind fun p => (f_X12_over N p.2 0).bind fun p => some p := by
      cases f_X12_need N X 59 <;> rfl
    rw [ea]
    have gX : goI X = goI R := by unfold goI; rw [x43]; exact goQ
    have cX : cdI X = cdI s + 2 := by
      have : cdI X = cdI q' := by unfold cdI; rw [x20]
      omega
    refine END (x := 0) hN (by omega) hI (Or.inl rfl) n1 (mX.mid (fun _ => ?_)) hF (fun W hW hfW => hC W hW (by omega) (by omega))
    have isX : ISCH (X.setI 75 0) (hd (X.setI 75 0) b γ) ((cdI R).toNat :: L) := by
      have e : hd (X.setI 75 0) b γ = hd q b γ := by
        show gv X (bk b) γ = _
        unfold gv
        rw [aX]
        exact hdq
      rw [e]
      exact isq.of (fun y _ => ⟨by show X.a 21 y = _; rw [aX, q21], by show X.a 22 y = _; rw [aX, q22]⟩)
    refine TS.jump (W := X.setI 75 0) (γ := γ) (b := b) cs.1 cX ?_ ?_ ?_ ?_ ?_ ⟨by omega, (cdI R).toNat :: L, isX, by rw [kk]; exact List.mem_cons_self ..⟩ arX ?_
    · show X.a 21 (cdI s).toNat = 1
      rw [aX, q21, (jq.2.2.2.1 (cdI s).toNat (by omega)).1]; exact r10
    · show X.a 21 (cdI s + 1).toNat = 36
      rw [aX, q21, kk]; exact jq.2.2.2.2.1
    · show X.a 23 (cdI s + 1).toNat = X.a 47 γ
      rw [aX, q23, q47, kk]; exact jq.2.2.2.2.2.2.1
    · exact (ACC.of (s := R) (u := X.setI 75 0) gX (fun j _ => by show X.a 44 j = _; rw [aX, q44]) γ).mpr hacc
    · show b = true ∨ X.a 44 γ = 0
      rw [aX, q44]; exact hb
    · have e : gv (X.setI 75 0) 47 γ = gv R 47 γ := by
        show (X.a 47 γ).toInt = _
        rw [aX, q47]; rfl
      have := r4.de
      rw [e]
      omega
  show ok (((if x3 = 0 then f_X12_jump_317 N q' else (f_X12_next N q').bind fun p20 => f_X12_jump_317 N p20 : Option RS).bind fun p13 => (f_X12_over N p13 0).bind fun p15 => some p15).bind fun p => f_X12_parse_10 N n p) P
  by_cases c : x3 = 0
  · rw [if_pos c]
    exact fin q' m0 rfl rfl rfl w8 (by omega)
  · rw [if_neg c]
    obtain ⟨S, eS, x1, x2, x3', x4'⟩ := p_nx hN m0.1
    rw [eS]
    obtain ⟨s15, sc⟩ := x4' m0.2.1
    obtain ⟨c1, c2, c3⟩ := sc (fun z => by rw [qi' 10 (by decide) (by decide), hx3 c] at z; exact absurd z (by decide))
    have tk := tk_add c1 ⟨by have := r1.tk; omega, by have := r1.tk; omega⟩
    have mS := m0.lx x1 s15 x2 c2 tk
    refine fin S mS x1.1 (x1.2.2.1 43 (by omega) (by omega)) (x1.2.2.1 20 (by omega) (by omega)) ?_ (by omega)
    exact w8.tbs x1.tbl.tbs
theorem run_jump {N : Nat} (hN : 1000 ≤ N) {n : Nat} {s u : RS} {t : Nat} {P : RS → Prop} (hI : INV s) (hp : PRS s) (ht : tpI s = t) (hu : SKF s u t 2) (hT : s.i 10 = 418 ∨ s.i 10 = 419) (h9 : t < 998) (n1 : 1 ≤ n) (hF : ∀ u, FS' s u → P u) (hC : ∀ W, PS t s W → fr s + 1 ≤ fr W → ok (f_X12_parse_10 N n W) P) : ok (((f_X12_jump N u).bind fun p13 => (f_X12_over N p13 0).bind fun p15 => some p15).bind fun p => f_X12_parse_10 N n p) P := by
  have hz : ¬ s.i 10 = 0 := by rcases hT with h | h <;> (rw [h]; decide)
  have h410 : 410 ≤ s.i 10 := by rcases hT with h | h <;> (rw [h]; decide)
  have u10 : u.i 10 = s.i 10 := hu.2.1 10 (by decide) (by decide)
  obtain ⟨R, eR, hR, aR, h59⟩ := STA55 (y := u.i 55 + 1) hN hI ht hz hu
  have hR' := hR
  obtain ⟨r1, r2, r3, r4, r5, r6, r7, r8, r9, r10, r11, r12, r13, r14⟩ := hR'
  have r13 := r13 h410
  have rf := r1.1.f0
  have goR := r1.2.2.2.2.2.2.2.2.2.2.2.1
  have flt : ∀ S, LX R S → ¬ S.i 15 = 0 → ok (f_X12_parse_10 N n ((S.setI 75 0).setI 63 (S.i 63 - 1))) P := fun S h1 h2 => lp_f (u := (S.setI 75 0).setI 63 (S.i 63 - 1)) h2 (hF _ (((FS'.of r3.1.1 h1 h2 r1.r).i75 0 (Or.inl rfl)).i63 _)) n1
  have bad : ∀ w w' : Int32, ¬ w = 0 → ok ((((f_X12_fail N R w w').bind fun p28 => some p28).bind fun p13 => (f_X12_over N p13 0).bind fun p15 => some p15).bind fun p => f_X12_parse_10 N n p) P := fun w w' hw => by
    obtain ⟨S, eS, q1, q2, q3⟩ := p_fl (N := N) r1.1 w w' hw
    rw [eS]
    show ok (((f_X12_over N S 0).bind fun p15 => some p15).bind fun p => f_X12_parse_10 N n p) P
    rw [e_over (Or.inl rfl)]
    exact flt S q1 q2
  have main : ∀ (b : Bool) (x2 x3 : Int32), (x3 = 0 ∨ x3 = 1 ∧ R.i 10 = 2) → ok (((f_X12_jump_49 N R (b01 b) x2 x3).bind fun p13 => (f_X12_over N p13 0).bind fun p15 => some p15).bind fun p => f_X12_parse_10 N n p) P := by
    intro b x2 x3 hx3
    unfold f_X12_jump_49
    have e1 : (1 : Int32).toInt = 1 := by decide
    have g0 : 0 ≤ (R.i 43).toInt := goR.1
    have g4 : (R.i 43).toInt ≤ 450 := by have : goI R ≤ 450 := by omega
                                         exact this
    have ek : (R.i 43 - 1).toInt = goI R - 1 := by
      show _ = (R.i 43).toInt - 1
      rw [toInt_sub] <;> rw [e1] <;> omega
    obtain ⟨x4, ex, hx⟩ := p_j60 (N := N) (σ := R) (b01 b) x2 x3 (by omega) N (-1) (R.i 43 - 1) (by omega) (by omega) (by omega) (Or.inr ⟨by decide, fun δ d1 d2 => by omega⟩)
    rw [ex]
    unfold f_X12_jump_171
    have x3i : ¬ x3 = 0 → R.i 10 = 2 := fun c => by
      rcases hx3 with h | h
      · exact absurd h c
      · exact h.2
    by_cases c0 : 0 ≤ x4
    · rw [if_pos c0]
      rcases hx with ⟨v1, v2, v3, v4, v5, v6⟩ | hx
      case inr => exact absurd c0 hx
      have ci := clampI v1
      have acc : ACC R x4.toNatClampNeg := ⟨by omega, v4, v3⟩
      by_cases c3 : x3 = 0
      · rw [if_pos c3]
        refine JMP2 hN hI h9 n1 hF (fun W a1 a2 a3 => hC W a1 a2) hR h59 r13 ci.symm acc ?_ x3i
        rcases v5 c3 with h | h
        · exact Or.inr h
        · left
          cases b
          · exact absurd rfl h.1
          · rfl
      · rw [if_neg c3]
        cases b
        · show ok (((if (0 : Int32) = 0 then (if ib x4 460 then (if 0 ≤ (R.a 46 ((x4 : Int32).toNatClampNeg)) then f_X12_jump_234 N R (b01 false) x3 (R.a 46 ((x4 : Int32).toNatClampNeg)) else (f_X12_fail N R 5 (R.i 11)).bind fun p28 => some p28) else none) else f_X12_jump_234 N R (b01 false) x3 x4 : Option RS).bind fun p13 => (f_X12_over N p13 0).bind fun p15 => some p15).bind fun p => f_X12_parse_10 N n p) P
          rw [if_pos rfl, if_pos (show ib x4 460 from ⟨v1, by omega⟩)]
          by_cases c46 : 0 ≤ R.a 46 x4.toNatClampNeg
          · rw [if_pos c46]
            have a44 : R.a 44 = s.a 44 := r14 44 (by decide) (by decide) (by decide) (by decide)
            have a46 : R.a 46 = s.a 46 := r14 46 (by decide) (by decide) (by decide) (by decide)
            have gR : goI R = goI s := r4.go
            have accs : ACC s x4.toNatClampNeg := (ACC.of gR (fun j _ => by rw [a44]) _).mp acc
            have c46' := le_int c46
            rw [z_t0] at c46'
            obtain ⟨l1, l2, l3⟩ := hp.1 x4.toNatClampNeg accs (by rw [← a44]; exact v6 c3) (by unfold gv; rw [← a46]; exact c46')
            have e46 : gv s 46 x4.toNatClampNeg = (R.a 46 x4.toNatClampNeg).toInt := by unfold gv; rw [a46]
            have en : ((gv s 46 x4.toNatClampNeg).toNat : Int) = gv s 46 x4.toNatClampNeg := Int.toNat_of_nonneg (by omega)
            have a0 : R.a 44 (gv s 46 x4.toNatClampNeg).toNat = 0 := by rw [a44]; exact l3
            refine JMP2 (γ := (gv s 46 x4.toNatClampNeg).toNat) hN hI h9 n1 hF (fun W a1 a2 a3 => hC W a1 a2) hR h59 r13 (by omega) ⟨by omega, by rw [a0]; decide, fun δ d1 d2 => v3 δ (by omega) d2⟩ (Or.inr a0) x3i
          · rw [if_neg c46]
            exact bad _ _ (by decide)
        · show ok (((if (1 : Int32) = 0 then (if ib x4 460 then (if 0 ≤ (R.a 46 ((x4 : Int32).toNatClampNeg)) then f_X12_jump_234 N R (b01 true) x3 (R.a 46 ((x4 : Int32).toNatClampNeg)) else (f_X12_fail N R 5 (R.i 11)).bind fun p28 => some p28) else none) else f_X12_jump_234 N R (b01 true) x3 x4 : Option RS).bind fun p13 => (f_X12_over N p13 0).bind fun p15 => some p15).bind fun p => f_X12_parse_10 N n p) P
          rw [if_neg (by decide)]
          exact JMP2 (b := true) hN hI h9 n1 hF (fun W a1 a2 a3 => hC W a1 a2) hR h59 r13 ci.symm acc (Or.inl rfl) x3i
    · rw [if_neg c0]
      by_cases c3 : x3 = 0
      · rw [if_pos c3]
        exact bad _ _ (by decide)
      · rw [if_neg c3]
        exact bad _ _ (by decide)
  have j16 : ∀ b : Bool, ok (((f_X12_jump_16 N u (b01 b)).bind fun p13 => (f_X12_over N p13 0).bind fun p15 => some p15).bind fun p => f_X12_parse_10 N n p) P := by
    intro b
    unfold f_X12_jump_16
    rw [eR]
    show ok (((if (R.i 10) = 2 then f_X12_jump_49 N R (b01 b) (u.i 11) 1 else f_X12_jump_49 N R (b01 b) (u.i 11) 0 : Option RS).bind fun p13 => (f_X12_over N p13 0).bind fun p15 => some p15).bind fun p => f_X12_parse_10 N n p) P
    by_cases c : R.i 10 = 2
    · rw [if_pos c]; exact main b _ 1 (Or.inr ⟨rfl, c⟩)
    · rw [if_neg c]; exact main b _ 0 (Or.inl rfl)
  unfold f_X12_jump
  rcases hT with h | h
  · rw [if_pos (u10.trans h)]
    exact j16 true
  · rw [if_neg (by rw [u10, h]; decide)]
    exact j16 false
