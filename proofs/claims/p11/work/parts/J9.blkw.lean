/-! reading: blocks of a try: the numbers hold again behind their first sign -/
def NUMW (s : RS) : Prop := (0 ≤ op s ∧ op s ≤ 20) ∧ (0 ≤ cdI s ∧ cdI s ≤ 3 * fr s) ∧ (0 ≤ enI s ∧ 2 * enI s ≤ fr s) ∧ (0 ≤ trI s ∧ 6 * trI s ≤ fr s + 3 * op s + 4) ∧ (0 ≤ caI s ∧ 3 * caI s ≤ fr s) ∧ (0 ≤ seI s ∧ seI s ≤ slI s) ∧ 2 * slI s ≤ fr s + 4 ∧ (0 ≤ goI s ∧ 2 * goI s ≤ fr s) ∧ (0 ≤ deI s ∧ 4 * deI s ≤ fr s + 2 * op s + 4) ∧ (0 ≤ waI s ∧ waI s ≤ op s + 1) ∧ (0 ≤ peI s ∧ 3 * peI s ≤ fr s) ∧ (0 ≤ tkI s ∧ tkI s ≤ fr s + 1)
def INVW (s : RS) : Prop := LXI s ∧ RB s ∧ s.i 15 = 0 ∧ TAB s ∧ NUMW s
theorem INV.w {s : RS} (h : INV s) : INVW s := by
  obtain ⟨a1, a2, a3, a4, a5⟩ := h
  refine ⟨a1, a2, a3, a4, ?_⟩
  unfold NUM at a5
  unfold NUMW
  omega
theorem INVW.r {s : RS} (h : INVW s) : s.i 75 = 0 ∨ s.i 75 = 1 := h.2.2.2.1.2.2.2.2.2.2.2.2.2
theorem INVW.tn {s : RS} (h : INVW s) : TN s := h.2.2.2.1.1.1
theorem INVW.cd {s : RS} (h : INVW s) : 0 ≤ cdI s ∧ cdI s ≤ 2700 := by
  have f := h.1.f0
  have n := h.2.2.2.2.2.1
  omega
theorem INVW.tbl {u w : RS} (h : INVW u) (hw : TBL u w) (hl : LXI w) (h15 : w.i 15 = 0) (h19 : w.i 19 = u.i 19) (h52 : w.i 52 = u.i 52) (h75 : w.i 75 = 0 ∨ w.i 75 = 1) (hf : fr u ≤ fr w) (htk : 0 ≤ tkI w ∧ tkI w ≤ fr w + 1) : INVW w := by
  obtain ⟨a1, a2, a3, a4, a5⟩ := h
  have e52 : deI w = deI u := by unfold deI; rw [h52]
  have e19 := op_of h19
  refine ⟨hl, RB.of (hw.2.2 2 (by omega) (by omega) (by omega) (by omega)) (hw.2.2 3 (by omega) (by omega) (by omega) (by omega)) (hw.1 4 (by omega)) (hw.1 6 (by omega)) (hw.1 7 (by omega)) a2, h15, a4.tbl hw (fun γ hγ => by rw [e52]; exact (a4.2.2.2.2.2.2.1 γ hγ).2) h75, ?_⟩
  unfold NUMW at a5 ⊢
  rw [e19, e52, hw.cd, hw.en, hw.tt, hw.ca, hw.se, hw.sl, hw.go, hw.wa, hw.pe]
  omega
theorem INVW.loc {u : RS} (h : INVW u) {k : Nat} (t : Nat) (v : Int32) (h1 : 64 ≤ k) (h2 : k ≤ 73) : INVW (u.setA k t v) := h.tbl (TBL.loc u t v h1 h2) h.1 h.2.2.1 rfl rfl h.r (Int.le_refl _) h.2.2.2.2.2.2.2.2.2.2.2.2.2.2.2
theorem INVW.th {u : RS} {t : Nat} {st k : Int32} (h : INVW u) : INVW (TH u t st k) := h.tbl (TH.tbl u t st k) h.1 h.2.2.1 rfl rfl h.r (Int.le_refl _) h.2.2.2.2.2.2.2.2.2.2.2.2.2.2.2
theorem NUMW.ofS {t : Nat} {s u : RS} (h : NUMW s) (hk : KP t s u) (e19 : op u = op s) (e43 : goI u = goI s) (e52 : deI u = deI s) (e56 : waI u = waI s) (hn : SNW s u) (hr : RATE s u) (hf : fr s ≤ fr u) (htk : tkI s ≤ tkI u) : NUMW u := by
  have k2 := hk.2.1.1
  have k3 := hk.2.2.1.1
  have k4 := hk.2.2.2.1.1
  have k5 := hk.2.2.2.2.1.1
  have k6 := hk.2.2.2.2.2.1.2.1
  have k7 := hk.2.2.2.2.2.1.1
  have k10 := hk.2.2.2.2.2.2.2.2.2.1.1
  have n1 := hn.1
  unfold RATE at hr
  unfold NUMW at h ⊢
  rw [e19, e43, e52, e56]
  omega
/-- behind a block of a try -/
def PSW (t : Nat) (s u : RS) : Prop := INVW u ∧ tpI u = (t : Int) - 1 ∧ KP t s u ∧ SAME s u ∧ RATE s u ∧ u.i 38 = s.i 38 ∧ fr s + 2 ≤ fr u ∧ tkI s ≤ tkI u ∧ 6 * (trI u - trI s) + 2 ≤ fr u - fr s ∧ (¬ 0 ≤ u.i 18 → TS s u)
def RUNBW (N : Nat) (b : Nat) : Prop := ∀ (n : Nat) (s : RS) (t : Nat) (P : RS → Prop), INVW s → PRL s → tpI s = t → t < 998 → s.a 64 t = 3 → s.a 65 t = 0 → 2 * (t : Int) ≤ fr s + 12 * op s + 2 → 900 - fr s ≤ b → 36000 + 29 ≤ (n : Int) + 40 * fr s → (∀ u, FS' s u → P u) → (∀ (m : Nat) (u : RS), PSW t s u → (n : Int) + 40 * fr s + 11 ≤ m + 40 * fr u → ok (f_X12_parse_10 N m u) P) → ok (f_X12_parse_10 N n s) P
theorem run_blockW {N b : Nat} (hN : 1000 ≤ N) (hl : 1 ≤ b → RUNL N (b - 1)) : RUNBW N b := by
  intro n s t P hI hp ht h9 hK hS hb hc hn hF hC
  have hf := hI.1.f0
  obtain ⟨n', rfl⟩ : ∃ n', n = n' + 1 := ⟨n - 1, by omega⟩
  have push : ((n' + 1 : Nat) : Int) = (n' : Int) + 1 := by omega
  rw [push] at hn hC
  have n1 : 1 ≤ n' := by omega
  refine lp_3 ht (by omega) hI.2.2.1 hK ?_
  rw [e_blk0 ht (by omega) hS]
  obtain ⟨p, ep, x1, x2, x3⟩ := p_op hN hI.1 123 (by decide)
  rw [ep]
  clear ep
  show ok (((f_X12_then N (p.2.setA 66 t (p.2.i 38)) 1 1).bind fun p => some p).bind fun p => f_X12_parse_10 N n' p) P
  by_cases c15 : p.2.i 15 = 0
  case neg =>
    rw [p_th 1 1 (u := p.2.setA 66 t (p.2.i 38)) (x1.tp.trans ht) (by omega)]
    exact lp_f (u := TH (p.2.setA 66 t (p.2.i 38)) t 1 1) c15 (hF _ (FS'.th ((FS'.of (K1.rf s) x1 c15 hI.r).loc t _ (by omega) (by omega)))) n1
  obtain ⟨s10, cn, o19, o20⟩ := x3 c15
  obtain ⟨c1, c2, c3⟩ := cn
  have tp : tpI p.2 = t := x1.tp.trans ht
  obtain ⟨O, hO⟩ : ∃ O, O = p.2.setA 66 t (p.2.i 38) := ⟨_, rfl⟩
  have iO : O.i = p.2.i := by rw [hO]; rfl
  have aO : ∀ k : Nat, k ≠ 66 → O.a k = s.a k := fun k hk => by rw [hO, setA_nk hk, x1.1]
  have O66 : O.a 66 t = s.i 38 := by rw [hO, setA_at]; exact x1.i38
  have tbO : TBL s O := by rw [hO]; exact x1.tbl.tr (TBL.loc _ t _ (by omega) (by omega))
  have kO : KP t s O := by rw [hO]; exact ((KP.rf t s).lx x1).loc t _ (by omega) (by omega) (Nat.le_refl _)
  have lO : LXI O := by rw [hO]; exact LXI.sA x1.2.2.2.1 66 t (p.2.i 38)
  have tO : tpI O = t := by rw [hO]; exact tp
  rw [← hO]
  clear hO
  have ns := hI.2.2.2.2
  have fO : fr s + 1 ≤ fr O := by unfold fr at *; rw [iO]; exact c2
  have n12 := ns.2.2.2.2.2.2.2.2.2.2.2
  have tkO : tkI O = tkI s + 1 := tk_add (u := s) (by rw [iO]; exact c1) ⟨n12.1, by omega⟩
  have opO : op O = op s + 1 := by
    have e1 : (1 : Int32).toInt = 1 := by decide
    have h1 := ns.1
    have a : op O = (O.i 19).toInt := rfl
    have b' : op s = (s.i 19).toInt := rfl
    rw [a, iO, o19, toInt_add] <;> rw [e1] <;> omega
  have o20' : op s + 1 ≤ 20 := by
    have e20 : (20 : Int32).toInt = 20 := by decide
    have e1 : (1 : Int32).toInt = 1 := by decide
    have h1 := ns.1
    have q := Int32.le_iff_toInt_le.mp o20
    have b' : op s = (s.i 19).toInt := rfl
    have ea : (s.i 19 + 1).toInt = (s.i 19).toInt + 1 := by rw [toInt_add] <;> rw [e1] <;> omega
    omega
  have r7 : O.i 52 = s.i 52 := by rw [iO]; exact x1.2.2.1 52 (by omega) (by omega)
  have iiO : INV O := by
    have e52 : deI O = deI s := by unfold deI; rw [r7]
    refine ⟨lO, hI.2.1.kp kO, by rw [iO]; exact c15, hI.2.2.2.1.tbl tbO (fun γ hγ => by rw [e52]; exact (hI.2.2.2.1.2.2.2.2.2.2.1 γ hγ).2) (by rw [iO, x1.2.2.1 75 (by omega) (by omega)]; exact hI.r), ?_⟩
    unfold NUMW at ns
    unfold NUM
    rw [opO, e52, tbO.cd, tbO.en, tbO.tt, tbO.ca, tbO.se, tbO.sl, tbO.go, tbO.wa, tbO.pe, tkO]
    omega
  rw [p_th 1 1 tO (by omega)]
  show ok (f_X12_parse_10 N n' (TH O t 1 1)) P
  have fOf := iiO.1.f0
  refine CALLL (hl (by omega)) iiO (hp.tbl tbO) tO (by omega) (by omega) (by omega) (by omega) (fun u hu => hF u (FS'.kp kO hu)) (fun m2 v hv hv2 hm2 => ?_)
  obtain ⟨v1, v2, v3, v4, v5, v6, v7, v8, v9, v10, v11⟩ := hv
  have fv := v1.1.f0
  obtain ⟨m3, rfl⟩ : ∃ m3, m2 = m3 + 1 := ⟨m2 - 1, by omega⟩
  refine lp_3 v2 (by omega) v1.2.2.1 ?_ ?_
  · rw [v11 64 (by omega) (by omega) (by omega), aO 64 (by decide)]; exact hK
  rw [e_blk1 v2 (by omega) v10]
  obtain ⟨w, ew, y1, y2⟩ := SHO hN v1 125 (by decide)
  rw [ew]
  clear ew
  show ok (f_X12_parse_10 N m3 ((w.2.setI 38 (w.2.a 66 t)).setI 63 (w.2.i 63 - 1))) P
  have ksv := kO.tr v3 (Nat.le_refl _)
  rcases y2 with y2 | ⟨y2, y3, y4, y5, y6⟩
  · exact lp_f (u := (w.2.setI 38 (w.2.a 66 t)).setI 63 (w.2.i 63 - 1)) y2 (hF _ (((FS'.of ksv.1.1 y1 y2 v1.r).i38 _).i63 _)) (by omega)
  have e66 : w.2.a 66 t = s.i 38 := by rw [y1.1, v11 66 (by omega) (by omega) (by omega)]; exact O66
  rw [e66]
  obtain ⟨W, hW⟩ : ∃ W, W = (w.2.setI 38 (s.i 38)).setI 63 (w.2.i 63 - 1) := ⟨_, rfl⟩
  have tW : TBS w.2 W := by rw [hW]; exact (TBS.i38 _ _).tr (TBL.i63 _ _).tbs
  have W38 : W.i 38 = s.i 38 := by rw [hW]; rfl
  have tpW : tpI W = (t : Int) - 1 := by rw [hW]; exact tp_sub (y1.tp.trans v2) (by omega)
  have wi : ∀ j : Nat, j ≠ 38 → j ≠ 63 → W.i j = w.2.i j := fun j h1 h2 => by rw [hW]; exact (if_neg h2).trans (if_neg h1)
  have waW : W.a = w.2.a := by rw [hW]; rfl
  have wbW : W.b = w.2.b := by rw [hW]; rfl
  rw [← hW]
  clear hW
  have seW : seI W = seI s := by unfold seI; rw [W38]
  have ksw := ksv.lx y1
  have sew : seI s ≤ seI w.2 := ksw.2.2.2.2.2.1.1
  have kW : KP t s W := ksw.tbs tW (by omega) (fun z => by rw [wi 18 (by decide) (by decide)]; exact z) (fun k _ _ j _ => by rw [waW])
  have tabW : TAB W := (v1.2.2.2.1.lx y1).tbs tW (by omega) (wi 52 (by decide) (by decide)) (by rw [wi 75 (by decide) (by decide), y1.2.2.1 75 (by omega) (by omega)]; exact v1.r)
  have e19 : W.i 19 = s.i 19 := by rw [wi 19 (by decide) (by decide), y4, v4.1, iO, o19, Int32.add_sub_cancel]
  have ij : ∀ j : Nat, 20 ≤ j → j ≠ 38 → j ≠ 63 → W.i j = v.i j := fun j h1 h2 h3 => (wi j h2 h3).trans (y1.2.2.1 j (by omega) (by omega))
  have sm : SAME s W := ⟨e19, (ij 43 (by omega) (by omega) (by omega)).trans (v4.2.1.trans (by rw [iO]; exact x1.2.2.1 43 (by omega) (by omega))), (ij 52 (by omega) (by omega) (by omega)).trans (v4.2.2.1.trans r7), (ij 56 (by omega) (by omega) (by omega)).trans (v4.2.2.2.trans (by rw [iO]; exact x1.2.2.1 56 (by omega) (by omega)))⟩
  have rt0 : RATE s w.2 := ((tbO.rate (by omega) (by omega)).tr v5).tr (y1.tbl.rate (by omega) (by omega))
  have fW : fr W = fr w.2 := by unfold fr; rw [wi 11 (by decide) (by decide)]
  have tkW : tkI W = tkI w.2 := by unfold tkI; rw [wi 17 (by decide) (by decide)]
  have rt : RATE s W := by
    have h1 : cdI W = cdI w.2 := tW.cd
    have h2 := tW.1.en
    have h3 := tW.1.tt
    have h4 := tW.1.ca
    have h5 := tW.1.sl
    have h6 := tW.1.pe
    unfold RATE at rt0 ⊢
    rw [h1, h2, h3, h4, h5, h6, fW, tkW]
    exact rt0
  have sn : SNW s W := SNW.eq W38 kW.2.2.2.2.2.1.2.1
  have lW : LXI W := y1.2.2.2.1.of (wi 2 (by decide) (by decide)) (wi 10 (by decide) (by decide)) (wi 11 (by decide) (by decide)) (wi 12 (by decide) (by decide)) (wi 14 (by decide) (by decide)) (by rw [wbW])
  have iiW : INVW W := ⟨lW, hI.2.1.kp kW, (wi 15 (by decide) (by decide)).trans y2, tabW, ns.ofS kW sm.eOp sm.go sm.de sm.wa sn rt (by omega) (by omega)⟩
  have tr1 : trI W = trI v := by rw [tW.1.tt]; exact y1.tbl.tt
  have tr2 : trI O = trI s := tbO.tt
  refine hC m3 W ⟨iiW, tpW, kW, sm, rt, W38, by omega, by omega, by unfold RATE at v5; omega, fun z => ?_⟩ (by omega)
  have z1 : ¬ 0 ≤ v.i 18 := fun q => z (by rw [wi 18 (by decide) (by decide), y1.2.2.1 18 (by omega) (by omega)]; exact q)
  exact (v9 z1).tbs tbO.sy (y1.tbl.tbs.tr tW) r7.symm (by omega) (by omega) (fun q => by rw [wi 75 (by decide) (by decide), y1.2.2.1 75 (by omega) (by omega)]; exact q)
/-- behind a block that was called -/
def PCW (t : Nat) (st : Int32) (u w : RS) : Prop := INVW w ∧ tpI w = t ∧ KP t u w ∧ SAME u w ∧ RATE u w ∧ w.i 38 = u.i 38 ∧ fr u + 2 ≤ fr w ∧ tkI u ≤ tkI w ∧ 6 * (trI w - trI u) + 2 ≤ fr w - fr u ∧ (¬ 0 ≤ w.i 18 → TS u w) ∧ w.a 65 t = st ∧ ∀ k : Nat, 64 ≤ k → k ≤ 73 → k ≠ 65 → w.a k t = u.a k t
theorem CALLBW {N : Nat} {b : Nat} (hr : RUNBW N b) {n : Nat} {u : RS} {t : Nat} {st : Int32} {P : RS → Prop} (hI : INVW u) (hp : PRL u) (ht : tpI u = t) (h9 : t < 997) (hb : 2 * ((t : Int) + 1) ≤ fr u + 12 * op u + 2) (hc : 900 - fr u ≤ b) (hn : 36000 + 29 ≤ (n : Int) + 40 * fr u) (hF : ∀ w, FS' u w → P w) (hC : ∀ (m : Nat) (w : RS), PCW t st u w → (n : Int) + 40 * fr u + 11 ≤ m + 40 * fr w → ok (f_X12_parse_10 N m w) P) : ok (f_X12_parse_10 N n (TH u t st 3)) P := by
  refine hr n (TH u t st 3) (t + 1) P hI.th (hp.tbl (TH.tbl u t st 3)) (TH.tp ht (by omega)) (by omega) TH.fk TH.fs (by show 2 * (((t + 1 : Nat)) : Int) ≤ fr u + 12 * op u + 2; omega) hc hn (fun w hw => hF w hw.pre) (fun m w hw hm => hC m w ?_ hm)
  obtain ⟨a1, a2, a3, a4, a5, a6, a7, a8, a9, a10⟩ := hw
  have kt : KP t u (TH u t st 3) := (KP.rf t u).th (Nat.le_refl _)
  have kf := a3.2.2.2.2.2.2.2.2.2.2
  refine ⟨a1, by rw [a2]; omega, kt.tr a3 (by omega), a4, a5, a6, a7, a8, a9, fun z => (a10 z).tbs (TH.tbl u t st 3).sy (TBL.rf w).tbs rfl (Int.le_refl _) hI.1.f0.2 id, ?_, fun k k1 k2 k3 => ?_⟩
  · rw [kf 65 (by omega) (by omega) t (by omega)]; exact TH.st
  · rw [kf k k1 k2 t (by omega)]
    by_cases c : k = 64
    · subst c; exact TH.fk0 (Nat.le_refl _)
    · exact congrFun (TH.loc c k3) t
