/-! reading: blocks; how a statement begins and ends -/
theorem TBS.i38 (u : RS) (v : Int32) : TBS u (u.setI 38 v) := ⟨⟨fun _ _ _ => rfl, rfl, fun _ _ h _ _ _ _ => if_neg h⟩, fun _ _ _ => rfl, rfl, rfl⟩
theorem TBS.tr {u v w : RS} (h1 : TBS u v) (h2 : TBS v w) : TBS u w := ⟨⟨fun k a b => (h2.1.1 k a b).trans (h1.1.1 k a b), h2.1.2.1.trans h1.1.2.1, fun j a b c d e f => (h2.1.2.2 j a b c d e f).trans (h1.1.2.2 j a b c d e f)⟩, fun k a b => (h2.2.1 k a b).trans (h1.2.1 k a b), h2.2.2.1.trans h1.2.2.1, h2.2.2.2.trans h1.2.2.2⟩
theorem KP.tbs {t : Nat} {s v W : RS} (h : KP t s v) (hw : TBS v W) (hse : seI s ≤ seI W) (h18 : 0 ≤ v.i 18 → 0 ≤ W.i 18) (hf : ∀ k : Nat, 64 ≤ k → k ≤ 73 → bel k t v W) : KP t s W := h.fin hw.1 hw.chn (by rw [hw.cd]; exact Int.le_refl _) (by rw [hw.go]; exact h.2.2.2.2.2.2.1.1) hse h18 (fun k _ => ⟨by rw [hw.2.1 21 (by omega) (by omega)], by rw [hw.2.1 22 (by omega) (by omega)], by rw [hw.2.1 23 (by omega) (by omega)]⟩) hf
theorem TAB.tbs {v W : RS} (h : TAB v) (hw : TBS v W) (hse : seI W ≤ seI v) (h52 : W.i 52 = v.i 52) (hr : W.i 75 = 0 ∨ W.i 75 = 1) : TAB W := h.fin hw.1 hw.chn (by rw [hw.cd]; exact Int.le_refl _) (by rw [hw.go]; exact Int.le_refl _) hse (fun γ hγ => by have e : deI W = deI v := by { unfold deI; rw [h52] }; rw [e]; exact (h.2.2.2.2.2.2.1 γ (by rw [hw.go] at hγ; exact hγ)).2) (fun w hw' => by rw [hw.go]; exact (h.2.2.2.2.2.2.2.2.1 w hw').2.2.2) hr
theorem NUM.ofS {t : Nat} {s u : RS} (h : NUM s) (hk : KP t s u) (ho : op s ≤ op u ∧ op u ≤ 20) (e43 : u.i 43 = s.i 43) (e52 : u.i 52 = s.i 52) (e56 : u.i 56 = s.i 56) (hn : SNW s u) (hr : RATE s u) (hf : fr s ≤ fr u) (htk : tkI s ≤ tkI u) : NUM u := by
  have g : goI u = goI s := by unfold goI; rw [e43]
  have d : deI u = deI s := by unfold deI; rw [e52]
  have w : waI u = waI s := by unfold waI; rw [e56]
  have k2 := hk.2.1.1
  have k3 := hk.2.2.1.1
  have k4 := hk.2.2.2.1.1
  have k5 := hk.2.2.2.2.1.1
  have k6 := hk.2.2.2.2.2.1.2.1
  have k7 := hk.2.2.2.2.2.1.1
  have k10 := hk.2.2.2.2.2.2.2.2.2.1.1
  have n1 := hn.1
  unfold RATE at hr
  unfold NUM at h ⊢
  rw [g, d, w]
  omega
theorem INV.mkS {t : Nat} {s u : RS} (h : INV s) (hk : KP t s u) (hl : LXI u) (h15 : u.i 15 = 0) (ht : TAB u) (hs : SAME s u) (hn : SNW s u) (hr : RATE s u) (hf : fr s ≤ fr u) (htk : tkI s ≤ tkI u) : INV u := ⟨hl, h.2.1.kp hk, h15, ht, h.2.2.2.2.ofS hk ⟨by rw [hs.eOp]; exact Int.le_refl _, by rw [hs.eOp]; exact h.op.2⟩ hs.2.1 hs.2.2.1 hs.2.2.2 hn hr hf htk⟩
theorem FS'.i75 {s u : RS} (h : FS' s u) (v : Int32) (hv : v = 0 ∨ v = 1) : FS' s (u.setI 75 v) := ⟨h.1, ⟨fun j hj => (if_neg (by omega)).trans (h.2.1.1 j hj), h.2.1.2⟩, hv⟩
theorem FS'.i38 {s u : RS} (h : FS' s u) (v : Int32) : FS' s (u.setI 38 v) := ⟨h.1, ⟨fun j hj => (if_neg (by omega)).trans (h.2.1.1 j hj), h.2.1.2⟩, h.2.2⟩
/-- a block's frame -/
def RUNB (N : Nat) (b : Nat) : Prop := ∀ (n : Nat) (s : RS) (t : Nat) (P : RS → Prop), INV s → PRL s → tpI s = t → s.a 64 t = 3 → s.a 65 t = 0 → 2 * (t : Int) ≤ fr s + 12 * op s + 2 → 900 - fr s ≤ b → 36000 + 29 ≤ (n : Int) + 40 * fr s → (∀ u, FS' s u → P u) → (∀ (m : Nat) (u : RS), PS t s u → fr s + 1 ≤ fr u → (n : Int) + 40 * fr s + 11 ≤ m + 40 * fr u → ok (f_X12_parse_10 N m u) P) → ok (f_X12_parse_10 N n s) P
theorem CALLB {N : Nat} {b : Nat} (hr : RUNB N b) {n : Nat} {u : RS} {t : Nat} {st : Int32} {P : RS → Prop} (hI : INV u) (hp : PRL u) (ht : tpI u = t) (h9 : t < 999) (hb : 2 * ((t : Int) + 1) ≤ fr u + 12 * op u + 2) (hc : 900 - fr u ≤ b) (hn : 36000 + 29 ≤ (n : Int) + 40 * fr u) (hF : ∀ w, FS' u w → P w) (hC : ∀ (m : Nat) (w : RS), PCS t st u w → fr u + 1 ≤ fr w → (n : Int) + 40 * fr u + 11 ≤ m + 40 * fr w → ok (f_X12_parse_10 N m w) P) : ok (f_X12_parse_10 N n (TH u t st 3)) P :=
  hr n (TH u t st 3) (t + 1) P hI.th (hp.tbl (TH.tbl u t st 3)) (TH.tp ht (by omega)) TH.fk TH.fs (by show 2 * (((t + 1 : Nat)) : Int) ≤ fr u + 12 * op u + 2; omega) hc hn (fun w hw => hF w hw.pre) (fun m w hw hm hm2 => hC m w (PCS.of hI.1.f0.2 hw) hm hm2)
theorem e_blk0 {N : Nat} {s : RS} {t : Nat} (ht : tpI s = t) (h9 : t < 1000) (h0 : s.a 65 t = 0) : f_X12_block N s (s.i 63) = (f_X12_open N s 123).bind fun p5 => (f_X12_then N (RS.setA p5.2 66 t (p5.2.i 38)) 1 1).bind fun p7 => some p7 := by
  unfold f_X12_block
  rw [if_pos (tp_ib ht h9), tp_nat ht, if_pos h0]
theorem e_blk1 {N : Nat} {s : RS} {t : Nat} (ht : tpI s = t) (h9 : t < 1000) (h0 : s.a 65 t = 1) : f_X12_block N s (s.i 63) = (f_X12_shut N s 125).bind fun p3 => some (RS.setI (RS.setI p3.2 38 (p3.2.a 66 t)) 63 ((p3.2.i 63) - 1)) := by
  unfold f_X12_block
  rw [if_pos (tp_ib ht h9), tp_nat ht, if_neg (by rw [h0]; decide)]
theorem run_block {N b : Nat} (hN : 1000 ≤ N) (hl : 1 ≤ b → RUNL N (b - 1)) : RUNB N b := by
  intro n s t P hI hp ht hK hS hb hc hn hF hC
  have hf := hI.1.f0
  have hop := hI.op
  have h9 : t < 998 := by omega
  obtain ⟨n', rfl⟩ : ∃ n', n = n' + 1 := ⟨n - 1, by omega⟩
  have push : ((n' + 1 : Nat) : Int) = (n' : Int) + 1 := by omega
  rw [push] at hn hC
  have n1 : 1 ≤ n' := by omega
  refine lp_3 ht (by omega) hI.2.2.1 hK ?_
  rw [e_blk0 ht (by omega) hS]
  obtain ⟨p, ep, hp2⟩ := OPO (t := t) hN hI 123 (by decide)
  rw [ep]
  show ok (((f_X12_then N (p.2.setA 66 t (p.2.i 38)) 1 1).bind fun p => some p).bind fun p => f_X12_parse_10 N n' p) P
  rcases hp2 with ⟨p1, p2, p3⟩ | ⟨p1, p2, p3, r1, r2, r3, r4, r5, r6, r7, r8, r9, r10, r11⟩
  · rw [p_th 1 1 (u := p.2.setA 66 t (p.2.i 38)) (p2.tp.trans ht) (by omega)]
    exact lp_f (u := TH (p.2.setA 66 t (p.2.i 38)) t 1 1) p1 (hF _ (FS'.th ((FS'.of (K1.rf s) p2 p1 hI.r).loc t _ (by omega) (by omega)))) n1
  · have iu : INV (p.2.setA 66 t (p.2.i 38)) := r1.loc t _ (by omega) (by omega)
    have ku : KP t s (p.2.setA 66 t (p.2.i 38)) := r3.loc t _ (by omega) (by omega) (Nat.le_refl _)
    have tu : TBL s (p.2.setA 66 t (p.2.i 38)) := r4.tr (TBL.loc _ t _ (by omega) (by omega))
    have fu : fr (p.2.setA 66 t (p.2.i 38)) = fr p.2 := rfl
    have ou : op (p.2.setA 66 t (p.2.i 38)) = op p.2 := rfl
    have tku : tkI (p.2.setA 66 t (p.2.i 38)) = tkI p.2 := rfl
    rw [p_th 1 1 (u := p.2.setA 66 t (p.2.i 38)) (r2.trans ht) (by omega)]
    show ok (f_X12_parse_10 N n' (TH (p.2.setA 66 t (p.2.i 38)) t 1 1)) P
    have rf := r1.1.f0
    refine CALLL (hl (by omega)) iu (hp.tbl tu) (r2.trans ht) (by omega) (by omega) (by omega) (by omega) (fun u hu => hF u (FS'.kp ku hu)) (fun m2 v hv hv2 hm2 => ?_)
    obtain ⟨v1, v2, v3, v4, v5, v6, v7, v8, v9, v10, v11⟩ := hv
    have fv := v1.1.f0
    obtain ⟨m3, rfl⟩ : ∃ m3, m2 = m3 + 1 := ⟨m2 - 1, by omega⟩
    refine lp_3 v2 (by omega) v1.2.2.1 ?_ ?_
    · rw [v11 64 (by omega) (by omega) (by omega)]
      show (p.2.setA 66 t (p.2.i 38)).a 64 t = 3
      rw [setA_nk (by decide), r10]; exact hK
    rw [e_blk1 v2 (by omega) v10]
    obtain ⟨w, ew, x1, x2⟩ := SHO hN v1 125 (by decide)
    rw [ew]
    show ok (f_X12_parse_10 N m3 ((w.2.setI 38 (w.2.a 66 t)).setI 63 (w.2.i 63 - 1))) P
    have ksv := ku.tr v3 (Nat.le_refl _)
    rcases x2 with x2 | ⟨x2, x3, x4, x5, x6⟩
    · exact lp_f (u := (w.2.setI 38 (w.2.a 66 t)).setI 63 (w.2.i 63 - 1)) x2 (hF _ (((FS'.of ksv.1.1 x1 x2 v1.r).i38 _).i63 _)) (by omega)
    · have e66 : w.2.a 66 t = s.i 38 := by
        rw [x1.1, v11 66 (by omega) (by omega) (by omega)]
        show (p.2.setA 66 t (p.2.i 38)).a 66 t = s.i 38
        rw [setA_at]; exact r11.i38
      rw [e66]
      have ses : seI ((w.2.setI 38 (s.i 38)).setI 63 (w.2.i 63 - 1)) = seI s := rfl
      have sew : seI s ≤ seI w.2 := by have := ksv.2.2.2.2.2.1.1; have := x1.tbl.se; omega
      have tw : TBS w.2 ((w.2.setI 38 (s.i 38)).setI 63 (w.2.i 63 - 1)) := (TBS.i38 _ _).tr (TBL.i63 _ _).tbs
      have ksw := ksv.lx x1
      have kW : KP t s ((w.2.setI 38 (s.i 38)).setI 63 (w.2.i 63 - 1)) := ksw.tbs tw (Int.le_refl _) id (fun _ _ _ _ _ => rfl)
      have tW : TAB ((w.2.setI 38 (s.i 38)).setI 63 (w.2.i 63 - 1)) := (v1.2.2.2.1.lx x1).tbs tw (by rw [ses]; exact sew) rfl (by show w.2.i 75 = 0 ∨ w.2.i 75 = 1; rw [x1.2.2.1 75 (by omega) (by omega)]; exact v1.r)
      have e19 : w.2.i 19 = s.i 19 := by
        rw [x4, v4.1]
        show (p.2.i 19) - 1 = _
        rw [r5, Int32.add_sub_cancel]
      have e43 : w.2.i 43 = s.i 43 := (x1.2.2.1 43 (by omega) (by omega)).trans (v4.2.1.trans (r4.2.2 43 (by omega) (by omega) (by omega) (by omega)))
      have e52 : w.2.i 52 = s.i 52 := (x1.2.2.1 52 (by omega) (by omega)).trans (v4.2.2.1.trans r7)
      have e56 : w.2.i 56 = s.i 56 := (x1.2.2.1 56 (by omega) (by omega)).trans (v4.2.2.2.trans (r4.2.2 56 (by omega) (by omega) (by omega) (by omega)))
      have sm : SAME s ((w.2.setI 38 (s.i 38)).setI 63 (w.2.i 63 - 1)) := ⟨e19, e43, e52, e56⟩
      have rt : RATE s w.2 := ((tu.rate (by omega) (by omega)).tr v5).tr (x1.tbl.rate (by omega) (by omega))
      have sn : SNW s ((w.2.setI 38 (s.i 38)).setI 63 (w.2.i 63 - 1)) := SNW.eq rfl kW.2.2.2.2.2.1.2.1
      have tpw : tpI w.2 = t := x1.tp.trans v2
      refine hC m3 _ ⟨hI.mkS kW x1.2.2.2.1 x2 tW sm sn rt (by show fr s ≤ fr w.2; omega) (by show tkI s ≤ tkI w.2; omega), tp_sub tpw (by omega), kW, sm, rt, sn, by show fr s ≤ fr w.2; omega, by show tkI s ≤ tkI w.2; omega, fun z => ?_⟩ (by show fr s + 1 ≤ fr w.2; omega) (by show (n' : Int) + 1 + 40 * fr s + 11 ≤ m3 + 40 * fr w.2; omega)
      have z1 : ¬ 0 ≤ v.i 18 := fun q => z (by show 0 ≤ w.2.i 18; rw [x1.2.2.1 18 (by omega) (by omega)]; exact q)
      exact (v9 z1).tbs tu.sy (x1.tbl.tbs.tr tw) r7.symm (by omega) (by omega) (fun q => by show w.2.i 75 = 1; rw [x1.2.2.1 75 (by omega) (by omega)]; exact q)
def SK (s : RS) (t : Nat) (K : Int32) : RS := EM ((s.setI 53 (s.i 53 + 1)).setA 64 t K) 1 0
/-- a statement's frame behind its first step -/
def RUNK (N b : Nat) (K : Int32) (T : Int32 → Prop) : Prop := ∀ (n : Nat) (s : RS) (t : Nat) (P : RS → Prop), INV s → PRS s → tpI s = t → s.a 65 t = 0 → T (s.i 10) → 2 * (t : Int) ≤ fr s + 12 * op s + 2 → 900 - fr s ≤ b → 36000 + 29 ≤ (n : Int) + 40 * fr s → (∀ u, FS' s u → P u) → (∀ (m : Nat) (u : RS), PS t s u → fr s + 1 ≤ fr u → (n : Int) + 40 * fr s + 11 ≤ m + 40 * fr u → ok (f_X12_parse_10 N m u) P) → ok (f_X12_parse_10 N n (SK s t K)) P
/-- the step is laid, its word is read -/
def MK (t : Nat) (K : Int32) (s R : RS) : Prop := INV R ∧ tpI R = t ∧ KP t s R ∧ SAME s R ∧ R.i 38 = s.i 38 ∧ RATE s R ∧ fr s + 1 ≤ fr R ∧ tkI R = tkI s + 1 ∧ cdI R = cdI s + 1 ∧ R.a 21 (cdI s).toNat = 1 ∧ R.a 64 t = K ∧ R.a 65 t = 0 ∧ (410 ≤ s.i 10 → fr s + 2 ≤ fr R) ∧ (∀ k : Nat, k ≠ 21 → k ≠ 22 → k ≠ 23 → k ≠ 64 → R.a k = s.a k)
theorem SK.a {s : RS} {t : Nat} {K : Int32} {k : Nat} (h1 : k ≠ 21) (h2 : k ≠ 22) (h3 : k ≠ 23) (h4 : k ≠ 64) : (SK s t K).a k = s.a k := (EM.a h1 h2 h3).trans (if_neg h4)
theorem SK.a64 {s : RS} {t : Nat} {K : Int32} : (SK s t K).a 64 t = K := by
  show (EM ((s.setI 53 (s.i 53 + 1)).setA 64 t K) 1 0).a 64 t = K
  rw [EM.a (by decide) (by decide) (by decide)]
  exact setA_at
theorem SK.kp {s : RS} {t : Nat} {K : Int32} (h : INV s) : KP t s (SK s t K) := by
  have c := h.cd
  exact (((KP.rf t s).i53 _).loc (k := 64) t K (by omega) (by omega) (Nat.le_refl _)).em c.1 c.2.2
theorem SK.tab {s : RS} {t : Nat} {K : Int32} (h : INV s) : TAB (SK s t K) := by
  have c := h.cd
  have i1 : INV (s.setI 53 (s.i 53 + 1)) := h.tbl (TBL.i53 s _) h.1 h.2.2.1 rfl rfl h.r (Int.le_refl _) h.tk
  exact (i1.loc (k := 64) t K (by omega) (by omega)).2.2.2.1.em c.1 c.2.2
theorem START {N : Nat} (hN : 1000 ≤ N) {s : RS} {t : Nat} (K : Int32) (hI : INV s) (ht : tpI s = t) (hS : s.a 65 t = 0) (hz : ¬ s.i 10 = 0) : ∃ R, f_X12_next N (SK s t K) = some R ∧ MK t K s R ∧ LX (SK s t K) R := by
  have cs := hI.cd
  obtain ⟨R, eR, x1, x2, x3, x4⟩ := p_nx hN (show LXI (SK s t K) from hI.1)
  obtain ⟨r15, rc⟩ := x4 hI.2.2.1
  obtain ⟨c1, c2, c3⟩ := rc hz
  have c2 : fr s + 1 ≤ fr R := c2
  have hf := hI.1.f0
  have n12 := hI.tk
  have tk : tkI R = tkI s + 1 := tk_add (u := s) c1 ⟨n12.1, by omega⟩
  have kR : KP t s R := (SK.kp hI).lx x1
  have tR : TAB R := (SK.tab hI).lx x1
  have e := x1.tbl
  have ecd : cdI R = cdI s + 1 := e.cd.trans (EM.cd (u := (s.setI 53 (s.i 53 + 1)).setA 64 t K) cs.1 cs.2.2)
  have a21 : R.a 21 (cdI s).toNat = 1 := by
    rw [x1.1]
    show (EM ((s.setI 53 (s.i 53 + 1)).setA 64 t K) 1 0).a 21 (cdI s).toNat = 1
    rw [EM.a21]
    exact if_pos rfl
  have rt : RATE s R := by
    have e2 : enI R = enI s := e.en
    have e3 : trI R = trI s := e.tt
    have e4 : caI R = caI s := e.ca
    have e5 : slI R = slI s := e.sl
    have e6 : peI R = peI s := e.pe
    unfold RATE
    omega
  have ss : SAME s R := x1.same x2
  have e38 : R.i 38 = s.i 38 := x1.i38
  have h20 := hI.op
  refine ⟨R, eR, ⟨hI.mkS kR x1.2.2.2.1 r15 tR ss (SNW.eq e38 kR.2.2.2.2.2.1.2.1) rt (by omega) (by omega), x1.tp.trans ht, kR, ss, e38, rt, c2, tk, ecd, a21, by rw [x1.1]; exact SK.a64, by rw [x1.1, SK.a (by decide) (by decide) (by decide) (by decide)]; exact hS, fun q => c3 (Or.inl q), fun k h1 h2 h3 h4 => by rw [x1.1]; exact SK.a h1 h2 h3 h4⟩, x1⟩
/-- before the last sign of a statement -/
def RAT1 (s u : RS) : Prop := cdI u - cdI s ≤ 3 * (fr u + 1 - fr s) ∧ 2 * (enI u - enI s) ≤ fr u + 1 - fr s ∧ 6 * (trI u - trI s) ≤ fr u + 1 - fr s ∧ 3 * (caI u - caI s) ≤ fr u + 1 - fr s ∧ 2 * (slI u - slI s) ≤ fr u + 1 - fr s ∧ 3 * (peI u - peI s) ≤ fr u + 1 - fr s ∧ tkI u - tkI s ≤ fr u - fr s
def MID (t : Nat) (s u : RS) (x : Int32) : Prop := LXI u ∧ u.i 15 = 0 ∧ TAB u ∧ tpI u = t ∧ KP t s u ∧ SAME s u ∧ SNW s u ∧ RAT1 s u ∧ fr s ≤ fr u ∧ tkI s ≤ tkI u ∧ (¬ 0 ≤ u.i 18 → TS s (u.setI 75 x))
theorem END {N : Nat} (hN : 1000 ≤ N) {t m : Nat} {s u : RS} {P : RS → Prop} {x : Int32} (h9 : t < 1000) (hI : INV s) (hx : x = 0 ∨ x = 1) (hm1 : 1 ≤ m) (h : MID t s u x) (hF : ∀ u, FS' s u → P u) (hC : ∀ W, PS t s W → fr u + 1 ≤ fr W → ok (f_X12_parse_10 N m W) P) : ok (((f_X12_need N u 59).bind fun p => (f_X12_over N p.2 x).bind fun p => some p).bind fun p => f_X12_parse_10 N m p) P := by
  obtain ⟨a1, a2, a3, a4, a5, a6, a7, a8, a9, a10, a11⟩ := h
  obtain ⟨p, ep, x1, x2, x3, x4⟩ := p_nd hN a1 59 (by decide)
  rw [ep]
  show ok (((f_X12_over N p.2 x).bind fun p => some p).bind fun p => f_X12_parse_10 N m p) P
  rw [e_over hx]
  show ok (f_X12_parse_10 N m ((p.2.setI 75 x).setI 63 (p.2.i 63 - 1))) P
  have u75 := a3.2.2.2.2.2.2.2.2.2
  rcases x3 with ⟨-, x3⟩ | ⟨-, x3⟩
  · exact lp_f (u := (p.2.setI 75 x).setI 63 (p.2.i 63 - 1)) x3 (hF _ (((FS'.of a5.1.1 x1 x3 u75).i75 x hx).i63 _)) hm1
  · obtain ⟨y1, y2, y3, y4⟩ := x4 x3
    have ts := hI.tk
    have hf := hI.1.f0
    have uf := a1.f0
    have tku : tkI u ≤ fr u + 1 := by unfold RAT1 at a8; omega
    have tk : tkI p.2 = tkI u + 1 := tk_add y2 ⟨by omega, by omega⟩
    have tb : TBL u ((p.2.setI 75 x).setI 63 (p.2.i 63 - 1)) := (x1.tbl.tr (TBL.i75 _ _)).tr (TBL.i63 _ _)
    have kW : KP t s ((p.2.setI 75 x).setI 63 (p.2.i 63 - 1)) := ((a5.lx x1).i75 x).i63 _
    have tW : TAB ((p.2.setI 75 x).setI 63 (p.2.i 63 - 1)) := (a3.lx x1).tbl ((TBL.i75 _ _).tr (TBL.i63 _ _)) (fun γ hγ => ((a3.lx x1).2.2.2.2.2.2.1 γ hγ).2) hx
    have sm : SAME s ((p.2.setI 75 x).setI 63 (p.2.i 63 - 1)) := a6.tr (x1.same x2)
    have e38 : ((p.2.setI 75 x).setI 63 (p.2.i 63 - 1)).i 38 = u.i 38 := x1.i38
    have sn : SNW s ((p.2.setI 75 x).setI 63 (p.2.i 63 - 1)) := by
      have e1 : seI ((p.2.setI 75 x).setI 63 (p.2.i 63 - 1)) = seI u := by unfold seI; rw [e38]
      have e2 := tb.sl
      refine ⟨by have := a7.1; omega, fun y y1 y2 => ?_⟩
      rw [tb.g (by decide)]
      exact a7.2 y y1 (by omega)
    have rt : RATE s ((p.2.setI 75 x).setI 63 (p.2.i 63 - 1)) := by
      have e1 := tb.cd
      have e2 := tb.en
      have e3 := tb.tt
      have e4 := tb.ca
      have e5 := tb.sl
      have e6 := tb.pe
      have e7 : fr ((p.2.setI 75 x).setI 63 (p.2.i 63 - 1)) = fr p.2 := rfl
      have e8 : tkI ((p.2.setI 75 x).setI 63 (p.2.i 63 - 1)) = tkI p.2 := rfl
      unfold RAT1 at a8
      unfold RATE
      rw [e1, e2, e3, e4, e5, e6, e7, e8]
      omega
    have tpw : tpI p.2 = t := x1.tp.trans a4
    refine hC _ ⟨hI.mkS kW x1.2.2.2.1 x3 tW sm sn rt (by show fr s ≤ fr p.2; omega) (by show tkI s ≤ tkI p.2; omega), tp_sub tpw h9, kW, sm, rt, sn, by show fr s ≤ fr p.2; omega, by show tkI s ≤ tkI p.2; omega, fun z => ?_⟩ y3
    have z1 : ¬ 0 ≤ u.i 18 := fun q => z (by show 0 ≤ p.2.i 18; rw [x1.2.2.1 18 (by omega) (by omega)]; exact q)
    exact (a11 z1).tbs (TBL.rf s) ((TBL.i75 u x).sy.tr tb).tbs rfl (Int.le_refl _) (by omega) (fun q => q)
/-- the step before a statement's code -/
theorem COD.step {s W f : RS} {C : Nat → Bool} {h o v v' : Nat} {rs : List Rec} {E : Gh → Prop} (hA : AG0 s W f) (hx : CX s h o v rs) (h0 : 0 ≤ cdI s) (hc : cdI s + 1 ≤ cdI W) (e21 : W.a 21 (cdI s).toNat = 1) (hr : ∀ g : Gh, g.isC = C → E g → ∀ k : Nat, (k : Int) < cdI W → recsOK f g k v rs) (rest : COD f C (cdI s + 1) h o v' rs E) : COD f C (cdI s) h o v rs E := by
  have ek : ((cdI s).toNat : Int) = cdI s := Int.toNat_of_nonneg h0
  obtain ⟨g1, g2, g3, g4⟩ := hA.cell (k := (cdI s).toNat) (by omega) (by omega) e21 rfl (by decide)
  have c := CODS.ins (E := fun g => E g ∧ FL f g v' (cdI s + 1) (cdI s + 1) h o rs) (C := C) hx g4 (fun g hg hE => ⟨okJ_1 (c := (h, o, v, false, rs)) g1 (by rw [ek]; exact hE.2.fs), hr g hg hE.1 _ (by omega)⟩)
  rw [ek] at c
  exact COD.seq c.cod rest (fun g _ hE => hE) (fun g _ hE hF => ⟨hE, hF⟩)
