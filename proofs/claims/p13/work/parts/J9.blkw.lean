section
/-! reading: blocks of a try: the numbers hold again behind their first sign -/
def NUMW (s : RS) : Prop := (0 ≤ op s ∧ op s ≤ 20) ∧ (0 ≤ cdI s ∧ cdI s ≤ 3 * fr s) ∧ (0 ≤ enI s ∧ 2 * enI s ≤ fr s) ∧ (0 ≤ trI s ∧ 6 * trI s ≤ fr s + 3 * op s + 4) ∧ (0 ≤ caI s ∧ 3 * caI s ≤ fr s) ∧ (0 ≤ seI s ∧ seI s ≤ slI s) ∧ 2 * slI s ≤ fr s + 4 ∧ (0 ≤ goI s ∧ 2 * goI s ≤ fr s) ∧ (0 ≤ deI s ∧ 4 * deI s ≤ fr s + 2 * op s + 4) ∧ (0 ≤ waI s ∧ waI s ≤ op s + 1) ∧ (0 ≤ peI s ∧ 3 * peI s ≤ fr s) ∧ (0 ≤ tkI s ∧ tkI s ≤ fr s + 1)
def INVW (s : RS) : Prop := LXI s ∧ RB s ∧ s.i 15 = 0 ∧ TAB s ∧ NUMW s
theorem INV.w {s : RS} (h : INV s) : INVW s := by
  obtain ⟨a1, a2, a3, a4, a5⟩ := h
  refine ⟨a1, a2, a3, a4, ?_⟩
  unfold NUM at a5
  unfold NUMW
  omega
theorem INVW.r {s : RS} (h : INVW s) : s.i 75 = 0 ∨ s.i 75 = 1 := h.2.2.2.1.2.2.2.2.2.2.2.2.2
theorem INVW.tn {s : RS} (h : INVW s) : TN s := h.2.2.2.1.1.1
theorem INVW.cd {s : RS} (h : INVW s) : 0 ≤ cdI s ∧ cdI s ≤ 2700 := by
  have f := h.1.f0
  have n := h.2.2.2.2.2.1
  omega
theorem INVW.tbl {u w : RS} (h : INVW u) (hw : TBL u w) (hl : LXI w) (h15 : w.i 15 = 0) (h19 : w.i 19 = u.i 19) (h52 : w.i 52 = u.i 52) (h75 : w.i 75 = 0 ∨ w.i 75 = 1) (hf : fr u ≤ fr w) (htk : 0 ≤ tkI w ∧ tkI w ≤ fr w + 1) : INVW w := by
  obtain ⟨a1, a2, a3, a4, a5⟩ := h
  have e52 : deI w = deI u := by unfold deI; rw [h52]
  have e19 := op_of h19
  refine ⟨hl, RB.of (hw.2.2 2 (by omega) (by omega) (by omega) (by omega)) (hw.2.2 3 (by omega) (by omega) (by omega) (by omega)) (hw.1 4 (by omega)) (hw.1 6 (by omega)) (hw.1 7 (by omega)) a2, h15, a4.tbl hw (fun γ hγ => by rw [e52]; exact (a4.2.2.2.2.2.2.1 γ hγ).2) h75, ?_⟩
  unfold NUMW at a5 ⊢
  rw [e19, e52, hw.cd, hw.en, hw.tt, hw.ca, hw.se, hw.sl, hw.go, hw.wa, hw.pe]
  omega
theorem INVW.loc {u : RS} (h : INVW u) {k : Nat} (t : Nat) (v : Int32) (h1 : 64 ≤ k) (h2 : k ≤ 73) : INVW (u.setA k t v) := h.tbl (TBL.loc u t v h1 h2) h.1 h.2.2.1 rfl rfl h.r (Int.le_refl _) h.2.2.2.2.2.2.2.2.2.2.2.2.2.2.2
theorem INVW.th {u : RS} {t : Nat} {st k : Int32} (h : INVW u) : INVW (TH u t st k) := h.tbl (TH.tbl u t st k) h.1 h.2.2.1 rfl rfl h.r (Int.le_refl _) h.2.2.2.2.2.2.2.2.2.2.2.2.2.2.2
theorem NUMW.ofS {t : Nat} {s u : RS} (h : NUMW s) (hk : KP t s u) (e19 : op u = op s) (e43 : goI u = goI s) (e52 : deI u = deI s) (e56 : waI u = waI s) (hn : SNW s u) (hr : RATE s u) (hf : fr s ≤ fr u) (htk : tkI s ≤ tkI u) : NUMW u := by
  have k2 := hk.2.1.1
  have k3 := hk.2.2.1.1
  have k4 := hk.2.2.2.1.1
  have k5 := hk.2.2.2.2.1.1
  have k6 := hk.2.2.2.2.2.1.2.1
  have k7 := hk.2.2.2.2.2.1.1
  have k10 := hk.2.2.2.2.2.2.2.2.2.1.1
  have n1 := hn.1
  unfold RATE at hr
  unfold NUMW at h ⊢
  rw [e19, e43, e52, e56]
  omega
/-- behind a block of a try -/
def PSW (t : Nat) (s u : RS) : Prop := INVW u ∧ tpI u = (t : Int) - 1 ∧ KP t s u ∧ SAME s u ∧ RATE s u ∧ u.i 38 = s.i 38 ∧ fr s + 2 ≤ fr u ∧ tkI s ≤ tkI u ∧ 6 * (trI u - trI s) + 2 ≤ fr u - fr s ∧ (¬ 0 ≤ u.i 18 → TS s u)
def RUNBW (N : Nat) (b : Nat) : Prop := ∀ (n : Nat) (s : RS) (t : Nat) (P : RS → Prop), INVW s → PRL s → tpI s = t → t < 998 → s.a 64 t = 3 → s.a 65 t = 0 → 2 * (t : Int) ≤ fr s + 12 * op s + 2 → 900 - fr s ≤ b → 36000 + 29 ≤ (n : Int) + 40 * fr s → (∀ u, FS' s u → P u) → (∀ (m : Nat) (u : RS), PSW t s u → (n : Int) + 40 * fr s + 11 ≤ m + 40 * fr u → ok (f_X12_parse_10 N m u) P) → ok (f_X12_parse_10 N n s) P
theorem run_blockW {N b : Nat} (hN : 1000 ≤ N) (hl : 1 ≤ b → RUNL N (b - 1)) : RUNBW N b := by
  intro n s t P hI hp ht h9 hK hS hb hc hn hF hC
  have hf := hI.1.f0
  obtain ⟨n', rfl⟩ : ∃ n', n = n' + 1 := ⟨n - 1, by omega⟩
  have push : ((n' + 1 : Nat) : Int) = (n' : Int) + 1 := by omega
  rw [push] at hn hC
  have n1 : 1 ≤ n' := by omega
  refine lp_3 ht (by omega) hI.2.2.1 hK ?_
  rw [e_blk0 ht (by omega) hS]
  obtain ⟨p, ep, x1, x2, x3⟩ := p_op hN hI.1 123 (by decide)
  rw [ep]
  clear ep
  show ok (((f_X12_then N (p.2.setA 66 t (p.2.i 38)) 1 1).bind fun p => some p).bind fun p => f_X12_parse_10 N n' p) P
  by_cases c15 : p.2.i 15 = 0
  case neg =>
    rw [p_th 1 1 (u := p.2.setA 66 t (p.2.i 38)) (x1.tp.trans ht) (by omega)]
    exact lp_f (u := TH (p.2.setA 66 t (p.2.i 38)) t 1 1) c15 (hF _ (FS'.th ((FS'.of (K1.rf s) x1 c15 hI.r).loc t _ (by omega) (by omega)))) n1
  obtain ⟨s10, cn, o19, o20⟩ := x3 c15
  obtain ⟨c1, c2, c3⟩ := cn
  have tp : tpI p.2 = t := x1.tp.trans ht
  obtain ⟨O, hO⟩ : ∃ O, O = p.2.setA 66 t (p.2.i 38) := ⟨_, rfl⟩
  have iO : O.i = p.2.i := by rw [hO]; rfl
  have aO : ∀ k : Nat, k ≠ 66 → O.a k = s.a k := fun k hk => by rw [hO, setA_nk hk, x1.1]
  have O66 : O.a 66 t = s.i 38 := by rw [hO, setA_at]; exact x1.i38
  have tbO : TBL s O := by rw [hO]; exact x1.tbl.tr (TBL.loc _ t _ (by omega) (by omega))
  have kO : KP t s O := by rw [hO]; exact ((KP.rf t s).lx x1).loc t _ (by omega) (by omega) (Nat.le_refl _)
  have lO : LXI O := by rw [hO]; exact LXI.sA x1.2.2.2.1 66 t (p.2.i 38)
  have tO : tpI O = t := by rw [hO]; exact tp
  rw [← hO]
  clear hO
  have ns := hI.2.2.2.2
  have fO : fr s + 1 ≤ fr O := by unfold fr at *; rw [iO]; exact c2
  have n12 := ns.2.2.2.2.2.2.2.2.2.2.2
  have tkO : tkI O = tkI s + 1 := tk_add (u := s) (by rw [iO]; exact c1) ⟨n12.1, by omega⟩
  have opO : op O = op s + 1 := by
    have e1 : (1 : Int32).toInt = 1 := by decide
    have h1 := ns.1
    have a : op O = (O.i 19).toInt := rfl
    have b' : op s = (s.i 19).toInt := rfl
    rw [a, iO, o19, toInt_add] <;> rw [e1] <;> omega
  have o20' : op s + 1 ≤ 20 := by
    have e20 : (20 : Int32).toInt = 20 := by decide
    have e1 : (1 : Int32).toInt = 1 := by decide
    have h1 := ns.1
    have q := Int32.le_iff_toInt_le.mp o20
    have b' : op s = (s.i 19).toInt := rfl
    have ea : (s.i 19 + 1).toInt = (s.i 19).toInt + 1 := by rw [toInt_add] <;> rw [e1] <;> omega
    omega
  have r7 : O.i 52 = s.i 52 := by rw [iO]; exact x1.2.2.1 52 (by omega) (by omega)
  have iiO : INV O := by
    have e52 : deI O = deI s := by unfold deI; rw [r7]
    refine ⟨lO, hI.2.1.kp kO, by rw [iO]; exact c15, hI.2.2.2.1.tbl tbO (fun γ hγ => by rw [e52]; exact (hI.2.2.2.1.2.2.2.2.2.2.1 γ hγ).2) (by rw [iO, x1.2.2.1 75 (by omega) (by omega)]; exact hI.r), ?_⟩
    unfold NUMW at ns
    unfold NUM
    rw [opO, e52, tbO.cd, tbO.en, tbO.tt, tbO.ca, tbO.se, tbO.sl, tbO.go, tbO.wa, tbO.pe, tkO]
    omega
  rw [p_th 1 1 tO (by omega)]
  show ok (f_X12_parse_10 N n' (TH O t 1 1)) P
  have fOf := iiO.1.f0
  refine CALLL (hl (by omega)) iiO (hp.tbl tbO) tO (by omega) (by omega) (by omega) (by omega) (fun u hu => hF u (FS'.kp kO hu)) (fun m2 v hv hv2 hm2 => ?_)
  obtain ⟨v1, v2, v3, v4, v5, v6, v7, v8, v9, v10, v11⟩ := hv
  have fv := v1.1.f0
  obtain ⟨m3, rfl⟩ : ∃ m3, m2 = m3 + 1 := ⟨m2 - 1, by omega⟩
  refine lp_3 v2 (by omega) v1.2.2.1 ?_ ?_
  · rw [v11 64 (by omega) (by omega) (by omega), aO 64 (by decide)]; exact hK
  rw [e_blk1 v2 (by omega) v10]
  obtain ⟨w, ew, y1, y2⟩ := SHO hN v1 125 (by decide)
  rw [ew]
  clear ew
  show ok (f_X12_parse_10 N m3 ((w.2.setI 38 (w.2.a 66 t)).setI 63 (w.2.i 63 - 1))) P
  have ksv := kO.tr v3 (Nat.le_refl _)
  rcases y2 with y2 | ⟨y2, y3, y4, y5, y6⟩
  · exact lp_f (u := (w.2.setI 38 (w.2.a 66 t)).setI 63 (w.2.i 63 - 1)) y2 (hF _ (((FS'.of ksv.1.1 y1 y2 v1.r).i38 _).i63 _)) (by omega)
  have e66 : w.2.a 66 t = s.i 38 := by rw [y1.1, v11 66 (by omega) (by omega) (by omega)]; exact O66
  rw [e66]
  obtain ⟨W, hW⟩ : ∃ W, W = (w.2.setI 38 (s.i 38)).setI 63 (w.2.i 63 - 1) := ⟨_, rfl⟩
  have tW : TBS w.2 W := by rw [hW]; exact (TBS.i38 _ _).tr (TBL.i63 _ _).tbs
  have W38 : W.i 38 = s.i 38 := by rw [hW]; rfl
  have tpW : tpI W = (t : Int) - 1 := by rw [hW]; exact tp_sub (y1.tp.trans v2) (by omega)
  have wi : ∀ j : Nat, j ≠ 38 → j ≠ 63 → W.i j = w.2.i j := fun j h1 h2 => by rw [hW]; exact (if_neg h2).trans (if_neg h1)
  have waW : W.a = w.2.a := by rw [hW]; rfl
  have wbW : W.b = w.2.b := by rw [hW]; rfl
  rw [← hW]
  clear hW
  have seW : seI W = seI s := by unfold seI; rw [W38]
  have ksw := ksv.lx y1
  have sew : seI s ≤ seI w.2 := ksw.2.2.2.2.2.1.1
  have kW : KP t s W := ksw.tbs tW (by omega) (fun z => by rw [wi 18 (by decide) (by decide)]; exact z) (fun k _ _ j _ => by rw [waW])
  have tabW : TAB W := (v1.2.2.2.1.lx y1).tbs tW (by omega) (wi 52 (by decide) (by decide)) (by rw [wi 75 (by decide) (by decide), y1.2.2.1 75 (by omega) (by omega)]; exact v1.r)
  have e19 : W.i 19 = s.i 19 := by rw [wi 19 (by decide) (by decide), y4, v4.1, iO, o19, Int32.add_sub_cancel]
  have ij : ∀ j : Nat, 20 ≤ j → j ≠ 38 → j ≠ 63 → W.i j = v.i j := fun j h1 h2 h3 => (wi j h2 h3).trans (y1.2.2.1 j (by omega) (by omega))
  have sm : SAME s W := ⟨e19, (ij 43 (by omega) (by omega) (by omega)).trans (v4.2.1.trans (by rw [iO]; exact x1.2.2.1 43 (by omega) (by omega))), (ij 52 (by omega) (by omega) (by omega)).trans (v4.2.2.1.trans r7), (ij 56 (by omega) (by omega) (by omega)).trans (v4.2.2.2.trans (by rw [iO]; exact x1.2.2.1 56 (by omega) (by omega)))⟩
  have rt0 : RATE s w.2 := ((tbO.rate (by omega) (by omega)).tr v5).tr (y1.tbl.rate (by omega) (by omega))
  have fW : fr W = fr w.2 := by unfold fr; rw [wi 11 (by decide) (by decide)]
  have tkW : tkI W = tkI w.2 := by unfold tkI; rw [wi 17 (by decide) (by decide)]
  have rt : RATE s W := by
    have h1 : cdI W = cdI w.2 := tW.cd
    have h2 := tW.1.en
    have h3 := tW.1.tt
    have h4 := tW.1.ca
    have h5 := tW.1.sl
    have h6 := tW.1.pe
    unfold RATE at rt0 ⊢
    rw [h1, h2, h3, h4, h5, h6, fW, tkW]
    exact rt0
  have sn : SNW s W := SNW.eq W38 kW.2.2.2.2.2.1.2.1
  have lW : LXI W := y1.2.2.2.1.of (wi 2 (by decide) (by decide)) (wi 10 (by decide) (by decide)) (wi 11 (by decide) (by decide)) (wi 12 (by decide) (by decide)) (wi 14 (by decide) (by decide)) (by rw [wbW])
  have iiW : INVW W := ⟨lW, hI.2.1.kp kW, (wi 15 (by decide) (by decide)).trans y2, tabW, ns.ofS kW sm.eOp sm.go sm.de sm.wa sn rt (by omega) (by omega)⟩
  have tr1 : trI W = trI v := by rw [tW.1.tt]; exact y1.tbl.tt
  have tr2 : trI O = trI s := tbO.tt
  refine hC m3 W ⟨iiW, tpW, kW, sm, rt, W38, by omega, by omega, by unfold RATE at v5; omega, fun z => ?_⟩ (by omega)
  have z1 : ¬ 0 ≤ v.i 18 := fun q => z (by rw [wi 18 (by decide) (by decide), y1.2.2.1 18 (by omega) (by omega)]; exact q)
  exact (v9 z1).tbs tbO.sy (y1.tbl.tbs.tr tW) r7.symm (by omega) (by omega) (fun q => by rw [wi 75 (by decide) (by decide), y1.2.2.1 75 (by omega) (by omega)]; exact q)
/-- behind a block that was called -/
def PCW (t : Nat) (st : Int32) (u w : RS) : Prop := INVW w ∧ tpI w = t ∧ KP t u w ∧ SAME u w ∧ RATE u w ∧ w.i 38 = u.i 38 ∧ fr u + 2 ≤ fr w ∧ tkI u ≤ tkI w ∧ 6 * (trI w - trI u) + 2 ≤ fr w - fr u ∧ (¬ 0 ≤ w.i 18 → TS u w) ∧ w.a 65 t = st ∧ ∀ k : Nat, 64 ≤ k → k ≤ 73 → k ≠ 65 → w.a k t = u.a k t
theorem CALLBW {N : Nat} {b : Nat} (hr : RUNBW N b) {n : Nat} {u : RS} {t : Nat} {st : Int32} {P : RS → Prop} (hI : INVW u) (hp : PRL u) (ht : tpI u = t) (h9 : t < 997) (hb : 2 * ((t : Int) + 1) ≤ fr u + 12 * op u + 2) (hc : 900 - fr u ≤ b) (hn : 36000 + 29 ≤ (n : Int) + 40 * fr u) (hF : ∀ w, FS' u w → P w) (hC : ∀ (m : Nat) (w : RS), PCW t st u w → (n : Int) + 40 * fr u + 11 ≤ m + 40 * fr w → ok (f_X12_parse_10 N m w) P) : ok (f_X12_parse_10 N n (TH u t st 3)) P := by
  refine hr n (TH u t st 3) (t + 1) P hI.th (hp.tbl (TH.tbl u t st 3)) (TH.tp ht (by omega)) (by omega) TH.fk TH.fs (by show 2 * (((t + 1 : Nat)) : Int) ≤ fr u + 12 * op u + 2; omega) hc hn (fun w hw => hF w hw.pre) (fun m w hw hm => hC m w ?_ hm)
  obtain ⟨a1, a2, a3, a4, a5, a6, a7, a8, a9, a10⟩ := hw
  have kt : KP t u (TH u t st 3) := (KP.rf t u).th (Nat.le_refl _)
  have kf := a3.2.2.2.2.2.2.2.2.2.2
  refine ⟨a1, by rw [a2]; omega, kt.tr a3 (by omega), a4, a5, a6, a7, a8, a9, fun z => (a10 z).tbs (TH.tbl u t st 3).sy (TBL.rf w).tbs rfl (Int.le_refl _) hI.1.f0.2 id, ?_, fun k k1 k2 k3 => ?_⟩
  · rw [kf 65 (by omega) (by omega) t (by omega)]; exact TH.st
  · rw [kf k k1 k2 t (by omega)]
    by_cases c : k = 64
    · subst c; exact TH.fk0 (Nat.le_refl _)
    · exact congrFun (TH.loc c k3) t
end
section
/-! reading: try: its typing -/
/-- the record of a try -/
def TYR (id h o v p : Nat) (ps ek : Bool) : Rec := (4, id, p, h, o, v, ps, ek)
/-- where the end of a body or a catch goes -/
def ENDC (f : RS) (g : Gh) (id h o v : Nat) (rs : List Rec) (ps ek : Bool) : Prop := (0 ≤ gv f 31 id → ps = true → ek = true) ∧ (¬ 0 ≤ gv f 31 id → FL f g v (gv f 32 id) (gv f 32 id) h o rs)
/-- what a jump's place finds inside a try -/
def JET (w f : RS) (g : Gh) (γ : Nat) (b : Bool) (k id h o v : Nat) (rs : List Rec) (ps ek : Bool) : Prop := ∃ vt : Nat, (vt < v ∨ vt ≤ v ∧ cdI w ≤ gv f 22 k) ∧ lvA f (gv w 47 γ).toNat h vt (gv f 22 k) (TYR id h o v 0 ps ek :: rs) ∧ (ARV w γ b → arr f g (gv w 47 γ).toNat (TYR id h o v 0 ps ek :: rs) → TGT f g vt (gv f 22 k) (gv w 47 γ).toNat h o rs)
def EJT (s w f : RS) (g : Gh) (id h o v : Nat) (rs : List Rec) (ps ek : Bool) : Prop := ∀ (γ : Nat) (b : Bool) (k : Nat), ACC w γ → (b = true ∨ w.a 44 γ = 0) → SITE s w γ b k → JET w f g γ b k id h o v rs ps ek
theorem TGT.tr {f : RS} {g : Gh} {vt d h o o' : Nat} {x : Int} {rs : List Rec} {r : Rec} (ht : TGT f g vt x d h o rs) (hd : d ≤ rs.length) (ho : r.o = o) : TGT f g vt x d h o' (r :: rs) := by
  obtain ⟨h1, h2, h3⟩ := ht
  refine ⟨h1, h2, fun q => ?_⟩
  obtain ⟨c, d1, d2, d3, d4, d5, d6⟩ := h3 q
  have e1 : oA d o' (r :: rs) = oA d o rs := by
    show (if rs.length + 1 ≤ d then o' else oA d r.o rs) = _
    rw [if_neg (by omega), ho]
  have e2 : dA d (r :: rs) = dA d rs := by
    show (if rs.length + 1 ≤ d then r :: rs else dA d rs) = _
    rw [if_neg (by omega)]
  exact ⟨c, d1, d2, by rw [e1]; exact d3, d4, by rw [e2]; exact d5, d6⟩
theorem EJT.ej {s s1 v w f : RS} {g : Gh} {id h o o' lv p : Nat} {rs : List Rec} {ps ek : Bool} (hE : EJT s w f g id h o lv rs ps ek) (hg : STG v w) (hn : TN v) (hs : cdI s ≤ cdI s1) (hgo : goI w = goI v) (hp : p < 2) (hd : ∀ γ : Nat, (γ : Int) < goI w → (gv w 47 γ).toNat ≤ rs.length) : EJ s1 v f g h o' lv (TYR id h o lv p ps ek :: rs) := by
  intro γ b k a1 a2 a3
  have q := hg.2.2.1
  have hγ : (γ : Int) < goI w := by have := a1.1; omega
  have e47 : gv w 47 γ = gv v 47 γ := by unfold gv; rw [(q γ hγ).2.1]
  have acc : ACC w γ := ⟨hγ, by rw [(q γ hγ).1]; exact a1.2.1, fun δ d1 d2 => by rw [(q δ d2).1]; exact a1.2.2 δ d1 (by omega)⟩
  have st : SITE s w γ b k := by
    have := a3.stg hg hn hγ
    exact ⟨by have := this.1; omega, this.2⟩
  have hd' := hd γ hγ
  obtain ⟨vt, j1, j2, j3⟩ := hE γ b k acc (by rw [(q γ hγ).1]; exact a2) st
  rw [e47] at j2 j3 hd'
  refine ⟨vt, ?_, j2, fun z y => ?_⟩
  · have := hg.1
    rcases j1 with j1 | j1
    · exact Or.inl j1
    · exact Or.inr ⟨j1.1, by omega⟩
  · refine (j3 (z.stg hg hγ) ?_).tr hd' rfl
    rcases y with y | y
    · exact Or.inl y
    · exact Or.inr ⟨fun q1 _ q3 => y.1 q1 hp q3, y.2⟩
/-- what is not whole yet while a try is read: its row, the links of its catches -/
def ZT (id : Nat) (CL : List Nat) : Nat → Nat → Prop := fun a k => a = 30 ∧ k = id ∨ a = 37 ∧ k ∈ CL
/-- body and catches laid so far; X is where the code behind TRIES begins, e the end of the body, ρ says whether an end is reached -/
def TRX (CL : List Nat) (id : Nat) (x e : Int) (ρ : Prop) (s w : RS) : Prop := ∀ (f : RS) (C : Nat → Bool), AGZ (ZT id CL) s w f → AGC s w C → ∀ (h o v : Nat) (rs : List Rec) (ps ek : Bool), CX s h o v rs → YE s rs → ∃ S0 S1 : Nat → Ctx → Prop, ∀ g : Gh, g.isC = C → (∀ k c, S0 k c → g.T k c) → (∀ k c, S1 k c → g.T k c) → (∀ k : Nat, (k : Int) < cdI w → recsOK f g k v (TYR id h o v 1 ps ek :: rs)) → (∀ y : Nat, (y : Int) < seI s → (g.isC (gv s 40 y).toNat = true ↔ ¬ s.a 41 y = 0)) → (ρ → ENDC f g id h o v rs ps ek ∧ cdI w ≤ gv f 32 id) → EJT s w f g id h o v rs ps ek → ((∀ j ∈ CL, FL f g v (gv w 35 j) (gv w 35 j) h o (TYR id h o v 1 ps ek :: rs)) ∧ ∀ k c, S1 k c → GOOD f g k c) ∧ ((∀ k : Nat, (k : Int) < e → recsOK f g k v (TYR id h o v 0 ps ek :: rs)) → FL f g v x x h o (TYR id h o v 0 ps ek :: rs) ∧ ∀ k c, S0 k c → GOOD f g k c)
theorem wv_tr {id h o v p : Nat} {ps ek : Bool} {rs : List Rec} : wv (TYR id h o v p ps ek :: rs) = wv rs := by
  unfold wv
  rw [if_neg (show ¬ Rec.k (TYR id h o v p ps ek) = 2 by show ¬ (4 : Nat) = 2; decide), Nat.zero_add]
  cases rs <;> rfl
theorem CX.tr {s B : RS} {h o o' v id p : Nat} {ps ek : Bool} {rs : List Rec} (hx : CX s h o v rs) (hd : deI B = deI s + 1) (hf : fr s ≤ fr B) (f9 : fr B ≤ 900) (d9 : deI B ≤ 250) (ho : 2 * (o' : Int) ≤ fr B) (hp : p = 0 ∨ o' = o) : CX B h o' v (TYR id h o v p ps ek :: rs) := by
  obtain ⟨c1, c2, c3, c4, c5, c6, c7, c8⟩ := hx
  refine ⟨by show ((rs.length + 1 : Nat) : Int) = deI B; omega, by omega, ho, by omega, by rw [wv_tr]; omega, ⟨?_, c6⟩, f9, d9⟩
  rcases hp with hp | hp
  · exact Or.inl ⟨rfl, hp⟩
  · exact Or.inr hp
theorem YE.tr {s B : RS} {rs : List Rec} {r : Rec} (h : YE s rs) (hg : goI B = goI s) (h44 : bel 44 (goI s) s B) (h47 : bel 47 (goI s) s B) (hd : ∀ γ : Nat, (γ : Int) < goI s → gv s 47 γ ≤ (rs.length : Int)) : YE B (r :: rs) := by
  intro γ a1 a2 a3
  have a1' : (γ : Int) < goI s := by omega
  have hq := h γ a1' (by rw [← h44 γ a1']; exact a2) (fun δ d1 d2 => by rw [← h44 δ d2]; exact a3 δ d1 (by omega))
  have e : gv B 47 γ = gv s 47 γ := by unfold gv; rw [h47 γ a1']
  rw [e]
  obtain ⟨y1, r', q, y2, y3, y4⟩ := hq
  have := hd γ a1'
  refine ⟨y1, r', q, ?_, y3, y4⟩
  show (if rs.length + 1 ≤ (gv s 47 γ).toNat then r :: rs else dA (gv s 47 γ).toNat rs) = r' :: q
  rw [if_neg (by omega)]
  exact y2
/-- n resources are opened -/
def OPS : Nat → RS → Int → Prop
  | 0, _, _ => True
  | n+1, f, x => gv f 21 x.toNat = 32 ∧ (0 ≤ gv f 22 x.toNat ∧ gv f 22 x.toNat < 8) ∧ OPS n f (x + 1)
theorem COD.ops {s f : RS} {C : Nat → Bool} {h v : Nat} {rs : List Rec} {E : Gh → Prop} : ∀ (n : Nat) (x : Int) (o : Nat), OPS n f x → 0 ≤ x → x + n ≤ cdI f → (∀ o' : Nat, o' ≤ o + n → CX s h o' v rs) → (∀ g : Gh, g.isC = C → E g → (∀ k : Nat, (k : Int) < x + n → recsOK f g k v rs)) → COD f C (x + n) h (o + n) v rs E → COD f C x h o v rs E
  | 0, x, o, _, _, _, _, _, hc => by
    have e : x + ((0 : Nat) : Int) = x := by omega
    rw [e] at hc
    exact hc
  | n + 1, x, o, hO, h0, hle, hx, hr, hc => by
    obtain ⟨p1, p2, p3⟩ := hO
    have push : ((n + 1 : Nat) : Int) = (n : Int) + 1 := by omega
    rw [push] at hle hr hc
    have e1 : x + ((n : Int) + 1) = x + 1 + (n : Int) := by omega
    rw [e1] at hle hr hc
    have e2 : o + (n + 1) = o + 1 + n := by omega
    rw [e2] at hc hx
    have ih := COD.ops n (x + 1) (o + 1) p3 (by omega) hle hx hr hc
    have ek : (x.toNat : Int) = x := Int.toNat_of_nonneg h0
    have c1 : COD f C x.toNat h o v rs (fun g => E g ∧ FL f g v (x + 1) (x + 1) h (o + 1) rs) := COD.ins (hx o (by omega)) (by omega) (fun g hg hE => ⟨okJ_32 (c := (h, o, v, false, rs)) p1 ⟨p2.1, p2.2, by show FL f g v ((x.toNat : Int) + 1) ((x.toNat : Int) + 1) h (o + 1) rs; rw [ek]; exact hE.2⟩, hr g hg hE.1 _ (by omega)⟩)
    rw [ek] at c1
    exact COD.seq c1 ih (fun g _ hE => hE) (fun g _ hE hF => ⟨hE, hF⟩)
end
section
/-! reading: try: body and catches, typed -/
theorem OPS.of {w f : RS} : ∀ {n : Nat} {x : Int}, OPS n w x → 0 ≤ x → (∀ k : Nat, x ≤ k → (k : Int) < x + n → w.a 21 k = 32 → f.a 21 k = w.a 21 k ∧ f.a 22 k = w.a 22 k) → OPS n f x
  | 0, _, _, _, _ => True.intro
  | n + 1, x, ⟨p1, p2, p3⟩, h0, hk => by
    have push : ((n + 1 : Nat) : Int) = (n : Int) + 1 := by omega
    rw [push] at hk
    have e : w.a 21 x.toNat = 32 := by
      have t32 : (32 : Int32).toInt = 32 := by decide
      exact Int32.toInt_inj.mp (by rw [t32]; exact p1)
    obtain ⟨q1, q2⟩ := hk x.toNat (by omega) (by omega) e
    have g1 : gv f 21 x.toNat = gv w 21 x.toNat := by unfold gv; rw [q1]
    have g2 : gv f 22 x.toNat = gv w 22 x.toNat := by unfold gv; rw [q2]
    exact ⟨by rw [g1]; exact p1, by rw [g2]; exact p2, OPS.of p3 (by omega) (fun k k1 k2 => hk k (by omega) (by omega))⟩
theorem OPN.n36 {w : RS} {k : Nat} (h : OPN w k) : w.a 21 k = 36 := by
  obtain ⟨γ, b, M, x1, x2, x3⟩ := h
  exact x2.op k x3
/-- goals lie no deeper than the statement -/
theorem INV.g47 {s w : RS} (hI : INV s) (hg : goI w = goI s) (h47 : bel 47 (goI s) s w) {rs : List Rec} (hr : (rs.length : Int) = deI s) : ∀ γ : Nat, (γ : Int) < goI w → (gv w 47 γ).toNat ≤ rs.length := fun γ hγ => by
  have := hI.2.2.2.1.2.2.2.2.2.2.1 γ (by omega)
  have e : gv w 47 γ = gv s 47 γ := by unfold gv; rw [h47 γ (by omega)]
  omega
theorem TRX.body {t id n : Nat} {s B v w : RS} {x : Int} (hI : INV s) (kB : KP t s B) (x0 : 0 ≤ x) (xs : cdI s ≤ x) (cB : cdI B = x + n) (hO : OPS n w x) (ts : TS B v) (k2 : KP t B v) (s2 : SAME B v) (iv : INVW v) (kw : KP t v w) (sw : SAME v w) (cw : cdI w = cdI v + 1) (w21 : w.a 21 (cdI v).toNat = 33) (B38 : B.i 38 = s.i 38) (dB : deI B = deI s + 1) (gB : goI B = goI s) (fB : fr s + 2 * n ≤ fr B) (f9 : fr B ≤ fr v) (d9 : deI B ≤ 250) (tid : (id : Int) < trI B) : TRX [] id x (cdI w) (v.i 75 = 1) s w := by
  intro f C hA hC h o lv rs ps ek hx hy
  have fv := iv.1.f0
  have cv := iv.cd
  have le := k2.2.1.1
  have lew := kw.2.1.1
  have ek' : ((cdI v).toNat : Int) = cdI v := Int.toNat_of_nonneg cv.1
  have hx1 := hx.1
  have hx2 := hx.2.1
  have hx3 := hx.2.2.1
  have AV : AGZ (ZT id []) s v f := hA.pre kw iv.tn (by rw [sw.go]; exact Int.le_refl _)
  have AB : AG0 B v f := AV.inn kB (fun j _ q => by
    rcases q with q | q
    · exact absurd q.1 (by decide)
    · exact absurd q.1 (by decide)) (fun j _ q => by
    rcases q with q | q
    · exact absurd q.1 (by decide)
    · exact absurd q.1 (by decide)) (fun j hj q => by
    rcases q with q | q
    · have := q.2; omega
    · exact absurd q.1 (by decide)) (fun j _ q => by
    rcases q with q | q
    · exact absurd q.1 (by decide)
    · exact absurd q.2 List.not_mem_nil)
  have kh := kw.2.2.2.2.1
  have CB : AGC B v C := hC.mid kB k2 kw.2.2.2.2.2.1.2.1 kh.1 (fun j hj => by unfold gv; rw [kh.2.2.2.1 j hj]) (fun j j1 j2 => (kh.2.2.2.2.2 j j1 j2).1)
  have kg := kB.2.2.2.2.2.2.1
  have gw : goI w = goI s := by rw [sw.go, s2.go, gB]
  have ksw : KP t s w := (kB.tr k2 (Nat.le_refl _)).tr kw (Nat.le_refl _)
  have hd := hI.g47 gw ksw.2.2.2.2.2.2.1.2.2.1 hx1
  have hds : ∀ γ : Nat, (γ : Int) < goI s → gv s 47 γ ≤ (rs.length : Int) := fun γ hγ => by
    have := hI.2.2.2.1.2.2.2.2.2.2.1 γ hγ; omega
  have cxo : ∀ o' : Nat, o' ≤ o + n → CX B h o' lv (TYR id h o lv 0 ps ek :: rs) := fun o' ho => hx.tr dB (by omega) (by omega) d9 (by omega) (Or.inl rfl)
  have c2 := ts f C AB CB h (o + n) lv _ (cxo _ (Nat.le_refl _)) (hy.tr gB kg.2.1 kg.2.2.1 hds)
  have a33 := hA.2.2.2.2.1 (cdI v).toNat (by omega) (by omega)
  have p1 : gv f 21 (cdI v).toNat = 33 := by
    unfold gv; rw [a33.1, w21]; decide
  have hcf := hA.1
  have ops : OPS n f x := hO.of x0 (fun k k1 k2' k3 => by
    obtain ⟨b1, b2⟩ := hA.2.2.2.2.1 k (by omega) (by omega)
    refine ⟨b1, (b2 (fun q => ?_)).2 (fun q => ?_)⟩
    · rcases q with q | q
      · exact absurd q.1 (by decide)
      · exact absurd q.1 (by decide)
    · rw [q.n36] at k3; exact absurd k3 (by decide))
  obtain ⟨E, hE0⟩ : ∃ E : Gh → Prop, E = fun g => (∀ k : Nat, (k : Int) < cdI w → recsOK f g k lv (TYR id h o lv 0 ps ek :: rs)) ∧ (∀ y : Nat, (y : Int) < seI s → (g.isC (gv s 40 y).toNat = true ↔ ¬ s.a 41 y = 0)) ∧ (v.i 75 = 1 → ENDC f g id h o lv rs ps ek ∧ cdI w ≤ gv f 32 id) ∧ EJT s w f g id h o lv rs ps ek := ⟨_, rfl⟩
  have env : ∀ g : Gh, E g → (v.i 75 = 1 → FL f g lv (cdI v) (cdI v) h (o + n) (TYR id h o lv 0 ps ek :: rs)) → ENS B v f h (o + n) lv (TYR id h o lv 0 ps ek :: rs) g := fun g hE hF => by
    rw [hE0] at hE
    obtain ⟨q1, q2, q3, q4⟩ := hE
    exact ⟨ENB.mid (s := s) (w := w) ⟨q1, q2⟩ kB B38 (by omega), hF, q4.ej (STG.kp kw sw.go sw.wa) iv.tn (by omega) sw.go (by omega) hd⟩
  have cB' : COD f C (x + n) h (o + n) lv (TYR id h o lv 0 ps ek :: rs) E := by
    rw [← cB]
    by_cases cr : v.i 75 = 1
    · have c33 : COD f C (cdI v).toNat h (o + n) lv (TYR id h o lv 0 ps ek :: rs) E := by
        refine COD.ins (s := B) (cxo _ (Nat.le_refl _)) (by omega) (fun g _ hE => ?_)
        rw [hE0] at hE
        obtain ⟨q1, q2, q3, q4⟩ := hE
        obtain ⟨⟨y1, y2⟩, y3⟩ := q3 cr
        refine ⟨okJ_33 (c := (h, o + n, lv, false, TYR id h o lv 0 ps ek :: rs)) p1 ⟨TYR id h o lv 0 ps ek, rs, rfl, rfl, rfl, rfl, y1, fun z => ?_⟩, q1 _ (by omega)⟩
        exact (y2 z).mono (Nat.le_refl _) (by show ((cdI v).toNat : Int) + 1 ≤ gv f 32 id; omega)
      exact COD.seq c2 c33 (fun g _ hE => hE) (fun g _ hE hF => env g hE (fun _ => by rw [ek'] at hF; exact hF))
    · exact c2.imp (fun g _ hE => env g hE (fun q => absurd q cr))
  have cc := COD.ops (s := B) (E := E) n x o ops x0 (by omega) cxo (fun g _ hE k hk => by rw [hE0] at hE; exact hE.1 k (by omega)) cB'
  obtain ⟨S, hS⟩ := cc
  exact ⟨S, fun _ _ => False, fun g hg hT _ q2 q3 q4 q5 => ⟨⟨fun j hj => absurd hj List.not_mem_nil, fun _ _ q => q.elim⟩, fun q1 => hS g hg hT (by rw [hE0]; exact ⟨q1, q3, q4, q5⟩)⟩⟩
/-- catch rows NL are laid, a name is told -/
def CATR (id : Nat) (CL NL : List Nat) (u U : RS) : Prop := (∀ j : Nat, (j < 10 ∨ 20 ≤ j) → j ≠ 33 → j ≠ 38 → j ≠ 42 → j ≠ 63 → U.i j = u.i j) ∧ (∀ k : Nat, k < 64 → k ≠ 30 → ¬ (34 ≤ k ∧ k ≤ 37) → k ≠ 40 → k ≠ 41 → U.a k = u.a k) ∧ (∀ j : Nat, j ≠ id → U.a 30 j = u.a 30 j) ∧ (∀ k j : Nat, 34 ≤ k → k ≤ 36 → (j : Int) < caI u → U.a k j = u.a k j) ∧ (∀ j : Nat, (j : Int) < caI u → j ∉ CL → U.a 37 j = u.a 37 j) ∧ caI u ≤ caI U ∧ (∀ j ∈ NL, caI u ≤ (j : Int) ∧ (j : Int) < caI U) ∧ (∀ j : Nat, caI u ≤ j → (j : Int) < caI U → j ∈ NL ∧ gv U 35 j = cdI u ∧ gv U 36 j = slI u) ∧ slI U = slI u + 1
theorem CATR.cd {id : Nat} {CL NL : List Nat} {u U : RS} (h : CATR id CL NL u U) : cdI U = cdI u := by unfold cdI; rw [h.1 20 (by omega) (by omega) (by omega) (by omega) (by omega)]
theorem CATR.go {id : Nat} {CL NL : List Nat} {u U : RS} (h : CATR id CL NL u U) : goI U = goI u := by unfold goI; rw [h.1 43 (by omega) (by omega) (by omega) (by omega) (by omega)]
theorem CATR.hd {id : Nat} {CL NL : List Nat} {u U : RS} (h : CATR id CL NL u U) (b : Bool) (γ : Nat) : hd U b γ = hd u b γ := by
  cases b
  · exact gv_of (h.2.1 49 (by omega) (by omega) (by omega) (by omega) (by omega)) γ
  · exact gv_of (h.2.1 48 (by omega) (by omega) (by omega) (by omega) (by omega)) γ
theorem CATR.isch {id : Nat} {CL NL : List Nat} {u U : RS} (h : CATR id CL NL u U) {x : Int} {M : List Nat} (hi : ISCH u x M) : ISCH U x M := hi.of (fun y _ => ⟨by rw [h.2.1 21 (by omega) (by omega) (by omega) (by omega) (by omega)], by rw [h.2.1 22 (by omega) (by omega) (by omega) (by omega) (by omega)]⟩)
theorem CATR.opn {id : Nat} {CL NL : List Nat} {u U : RS} (h : CATR id CL NL u U) {k : Nat} (ho : OPN U k) : OPN u k := by
  obtain ⟨γ, b, M, x1, x2, x3⟩ := ho
  rw [h.hd] at x2
  exact ⟨γ, b, M, by rw [← h.go]; exact x1, x2.of (fun y _ => ⟨by rw [h.2.1 21 (by omega) (by omega) (by omega) (by omega) (by omega)], by rw [h.2.1 22 (by omega) (by omega) (by omega) (by omega) (by omega)]⟩), x3⟩
theorem STG.cat {id : Nat} {CL NL : List Nat} {u U : RS} (h : CATR id CL NL u U) : STG u U := by
  have e9 : waI U = waI u := by unfold waI; rw [h.1 56 (by omega) (by omega) (by omega) (by omega) (by omega)]
  have e10 : peI U = peI u := by unfold peI; rw [h.1 59 (by omega) (by omega) (by omega) (by omega) (by omega)]
  have ea : ∀ (k j : Nat), k < 64 → k ≠ 30 → ¬ (34 ≤ k ∧ k ≤ 37) → k ≠ 40 → k ≠ 41 → U.a k j = u.a k j := fun k j h1 h2 h3 h4 h5 => by rw [h.2.1 k h1 h2 h3 h4 h5]
  refine ⟨by rw [h.cd]; exact Int.le_refl _, by rw [h.go]; exact Int.le_refl _, fun γ _ => ⟨ea 44 γ (by omega) (by omega) (by omega) (by omega) (by omega), ea 47 γ (by omega) (by omega) (by omega) (by omega) (by omega), fun q => by rw [ea 50 γ (by omega) (by omega) (by omega) (by omega) (by omega)]; exact q, fun q => by rw [ea 51 γ (by omega) (by omega) (by omega) (by omega) (by omega)]; exact q⟩, fun γ b M hγ hI hM => ⟨[], by rw [h.hd]; exact h.isch hI, fun x hx => absurd hx List.not_mem_nil⟩, ⟨by rw [e10]; exact Int.le_refl _, fun j _ => ea 60 j (by omega) (by omega) (by omega) (by omega) (by omega), fun j _ => ea 61 j (by omega) (by omega) (by omega) (by omega) (by omega), fun j _ => ea 62 j (by omega) (by omega) (by omega) (by omega) (by omega)⟩, e9, fun j _ => ea 57 j (by omega) (by omega) (by omega) (by omega) (by omega)⟩
theorem AGZ.cat {id : Nat} {CL NL : List Nat} {s u U f : RS} (hA : AGZ (ZT id (CL ++ NL)) s U f) (h : CATR id CL NL u U) : AGZ (ZT id CL) s u f := by
  obtain ⟨a1, a2, a3, a4, a5, a6, a7, a8⟩ := hA
  have ec := h.cd
  have een : enI U = enI u := by unfold enI; rw [h.1 24 (by omega) (by omega) (by omega) (by omega) (by omega)]
  have e3 : trI U = trI u := by unfold trI; rw [h.1 29 (by omega) (by omega) (by omega) (by omega) (by omega)]
  have e4 := h.2.2.2.2.2.1
  have ea : ∀ k : Nat, k < 64 → k ≠ 30 → ¬ (34 ≤ k ∧ k ≤ 37) → k ≠ 40 → k ≠ 41 → U.a k = u.a k := h.2.1
  refine ⟨by omega, by omega, by omega, by rw [← h.1 3 (by omega) (by omega) (by omega) (by omega) (by omega)]; exact a4, fun k k1 k2 => ?_, fun k k1 k2 => ?_, fun k k1 k2 z => ?_, fun k k1 k2 => ?_⟩
  · obtain ⟨b1, b2⟩ := a5 k k1 (by omega)
    refine ⟨b1.trans (by rw [ea 21 (by omega) (by omega) (by omega) (by omega) (by omega)]), fun _ => ?_⟩
    obtain ⟨b3, b4⟩ := b2 (fun q => by
      rcases q with q | q
      · exact absurd q.1 (by decide)
      · exact absurd q.1 (by decide))
    exact ⟨b3.trans (by rw [ea 23 (by omega) (by omega) (by omega) (by omega) (by omega)]), fun q => (b4 (fun y => q (h.opn y))).trans (by rw [ea 22 (by omega) (by omega) (by omega) (by omega) (by omega)])⟩
  · obtain ⟨b1, b2, b3⟩ := a6 k k1 (by omega)
    rw [ea 26 (by omega) (by omega) (by omega) (by omega) (by omega)] at b1
    rw [ea 28 (by omega) (by omega) (by omega) (by omega) (by omega)] at b2
    rw [ea 27 (by omega) (by omega) (by omega) (by omega) (by omega)] at b3
    exact ⟨b1, b2, fun _ => b3 (fun q => by
      rcases q with q | q
      · exact absurd q.1 (by decide)
      · exact absurd q.1 (by decide))⟩
  · have nk : k ≠ id := fun q => z (Or.inl ⟨rfl, q⟩)
    obtain ⟨b1, b2, b3⟩ := a7 k k1 (by omega) (fun q => by
      rcases q with q | q
      · exact nk q.2
      · exact absurd q.1 (by decide))
    rw [ea 31 (by omega) (by omega) (by omega) (by omega) (by omega)] at b2
    rw [ea 32 (by omega) (by omega) (by omega) (by omega) (by omega)] at b3
    exact ⟨b1.trans (h.2.2.1 k nk), b2, b3⟩
  · obtain ⟨b1, b2, b3⟩ := a8 k k1 (by omega)
    refine ⟨b1.trans (h.2.2.2.1 35 k (by omega) (by omega) k2), b2.trans (h.2.2.2.1 36 k (by omega) (by omega) k2), fun z => ?_⟩
    have nk : k ∉ CL := fun q => z (Or.inr ⟨rfl, q⟩)
    refine (b3 (fun q => ?_)).trans (h.2.2.2.2.1 k k2 nk)
    rcases q with q | q
    · exact absurd q.1 (by decide)
    · rcases List.mem_append.mp q.2 with q | q
      · exact nk q
      · have := (h.2.2.2.2.2.2.1 k q).1; omega
theorem AGC.cat {id : Nat} {CL NL : List Nat} {s u U : RS} {C : Nat → Bool} (hC : AGC s U C) (h : CATR id CL NL u U) (hca : caI s ≤ caI u) : AGC s u C := by
  intro x h1 h2
  have hs := h.2.2.2.2.2.2.2.2
  have e4 := h.2.2.2.2.2.1
  rw [hC x h1 (by omega)]
  constructor
  · rintro ⟨j, j1, j2, j3⟩
    by_cases q : (j : Int) < caI u
    · exact ⟨j, j1, q, by unfold gv at *; rw [← h.2.2.2.1 36 j (by omega) (by omega) q]; exact j3⟩
    · have := (h.2.2.2.2.2.2.2.1 j (by omega) j2).2.2
      omega
  · rintro ⟨j, j1, j2, j3⟩
    exact ⟨j, j1, by omega, by unfold gv at *; rw [h.2.2.2.1 36 j (by omega) (by omega) j2]; exact j3⟩
theorem TBS.b38 (w : RS) (x : Int32) : TBS (w.setI 38 x) w := ⟨⟨fun _ _ _ => rfl, rfl, fun _ _ h _ _ _ _ => (if_neg h).symm⟩, fun _ _ _ => rfl, rfl, rfl⟩
theorem TRX.catch {t id : Nat} {CL NL : List Nat} {s u B v w : RS} {x e : Int} {ρ ρ' : Prop} (h1 : TRX CL id x e ρ s u) (hI : INV s) (iu : INVW u) (ksu : KP t s u) (cat : CATR id CL NL u B) (iB : INVW B) (kB : KP t s B) (nB : SNW s B) (ts : TS B v) (k2 : KP t B v) (s2 : SAME B v) (iv : INVW v) (kw : KP t v (w.setI 38 (v.i 38))) (gw : w.i 43 = v.i 43) (ww : w.i 56 = v.i 56) (cw : cdI w = cdI v + 1) (w21 : w.a 21 (cdI v).toNat = 34) (dB : deI B = deI s + 1) (gB : goI B = goI s) (fB : fr s ≤ fr B) (f9 : fr B ≤ 900) (d9 : deI B ≤ 250) (tid : (id : Int) < trI B) (hCL : ∀ j ∈ CL, (j : Int) < caI u) (ec : e ≤ cdI u) (r1 : v.i 75 = 1 → ρ') (r2 : ρ → ρ') : TRX (CL ++ NL) id x e ρ' s w := by
  intro f C hA hC h o lv rs ps ek hx hy
  have fv := iv.1.f0
  have cv := iv.cd
  have le := k2.2.1.1
  have ek' : ((cdI v).toNat : Int) = cdI v := Int.toNat_of_nonneg cv.1
  have hx1 := hx.1
  have hx2 := hx.2.1
  have hx3 := hx.2.2.1
  have hA' : AGZ (ZT id (CL ++ NL)) s (w.setI 38 (v.i 38)) f := hA.i38 _
  have hC' : AGC s (w.setI 38 (v.i 38)) C := hC
  have gwv : goI (w.setI 38 (v.i 38)) = goI v := by show goI w = goI v; unfold goI; rw [gw]
  have wwv : waI (w.setI 38 (v.i 38)) = waI v := by show waI w = waI v; unfold waI; rw [ww]
  have gvB : goI v = goI B := s2.go
  have kBw : KP t B (w.setI 38 (v.i 38)) := k2.tr kw (Nat.le_refl _)
  have AV : AGZ (ZT id (CL ++ NL)) s v f := hA'.pre kw iv.tn (by omega)
  have ABz : AGZ (ZT id (CL ++ NL)) s B f := hA'.pre kBw iB.tn (by omega)
  have kh := kw.2.2.2.2.1
  have khB := kBw.2.2.2.2.1
  have cc := cat.2.2.2.2.2.1
  have CB' : AGC s B C := hC'.mid (KP.rf t s) kB kBw.2.2.2.2.2.1.2.1 khB.1 (fun j hj => by unfold gv; rw [khB.2.2.2.1 j hj]) (fun j j1 j2 => (khB.2.2.2.2.2 j j1 j2).1)
  have CV : AGC s v C := hC'.mid (KP.rf t s) (kB.tr k2 (Nat.le_refl _)) kw.2.2.2.2.2.1.2.1 kh.1 (fun j hj => by unfold gv; rw [kh.2.2.2.1 j hj]) (fun j j1 j2 => (kh.2.2.2.2.2 j j1 j2).1)
  have Au : AGZ (ZT id CL) s u f := ABz.cat cat
  have Cu : AGC s u C := CB'.cat cat ksu.2.2.2.2.1.1
  have AB : AG0 B v f := AV.inn kB (fun j _ q => by
    rcases q with q | q
    · exact absurd q.1 (by decide)
    · exact absurd q.1 (by decide)) (fun j _ q => by
    rcases q with q | q
    · exact absurd q.1 (by decide)
    · exact absurd q.1 (by decide)) (fun j hj q => by
    rcases q with q | q
    · have := q.2; omega
    · exact absurd q.1 (by decide)) (fun j hj q => by
    rcases q with q | q
    · exact absurd q.1 (by decide)
    · rcases List.mem_append.mp q.2 with q | q
      · have := hCL j q; omega
      · have := (cat.2.2.2.2.2.2.1 j q).2; omega)
  have CB : AGC B v C := CV.mid kB k2 (Int.le_refl _) (Int.le_refl _) (fun _ _ => rfl) (fun j j1 j2 => by omega)
  have kg := kB.2.2.2.2.2.2.1
  have gws : goI w = goI s := by have : goI (w.setI 38 (v.i 38)) = goI w := rfl; omega
  have ksw : KP t s (w.setI 38 (v.i 38)) := kB.tr kBw (Nat.le_refl _)
  have hd := hI.g47 (w := w) gws ksw.2.2.2.2.2.2.1.2.2.1 hx1
  have hds : ∀ γ : Nat, (γ : Int) < goI s → gv s 47 γ ≤ (rs.length : Int) := fun γ hγ => by
    have := hI.2.2.2.1.2.2.2.2.2.2.1 γ hγ; omega
  have cxB : CX B h o lv (TYR id h o lv 1 ps ek :: rs) := hx.tr dB fB f9 d9 (by omega) (Or.inr rfl)
  have c2 := ts f C AB CB h o lv _ cxB (hy.tr gB kg.2.1 kg.2.2.1 hds)
  have cdB := cat.cd
  have a34 := hA.2.2.2.2.1 (cdI v).toNat (by have := kB.2.1.1; omega) (by omega)
  have p1 : gv f 21 (cdI v).toNat = 34 := by
    unfold gv; rw [a34.1, w21]; decide
  have hcf := hA.1
  obtain ⟨E, hE0⟩ : ∃ E : Gh → Prop, E = fun g => (∀ k : Nat, (k : Int) < cdI w → recsOK f g k lv (TYR id h o lv 1 ps ek :: rs)) ∧ (∀ y : Nat, (y : Int) < seI s → (g.isC (gv s 40 y).toNat = true ↔ ¬ s.a 41 y = 0)) ∧ (ρ' → ENDC f g id h o lv rs ps ek ∧ cdI w ≤ gv f 32 id) ∧ EJT s w f g id h o lv rs ps ek := ⟨_, rfl⟩
  have stgv : STG v w := (STG.kp (W := w.setI 38 (v.i 38)) kw gwv wwv).tr (STG.tbs (TBS.b38 w _))
  have env : ∀ g : Gh, g.isC = C → E g → (v.i 75 = 1 → FL f g lv (cdI v) (cdI v) h o (TYR id h o lv 1 ps ek :: rs)) → ENS B v f h o lv (TYR id h o lv 1 ps ek :: rs) g := fun g hg hE hF => by
    rw [hE0] at hE
    obtain ⟨q1, q2, q3, q4⟩ := hE
    exact ⟨ENB.nx (s := s) (w := v) ⟨fun k hk => q1 k (by omega), q2⟩ hg CV kB k2 nB iB.2.2.2.1 hI.2.2.2.1, hF, q4.ej stgv iv.tn kB.2.1.1 (by omega) (by omega) hd⟩
  have cB' : COD f C (cdI B) h o lv (TYR id h o lv 1 ps ek :: rs) E := by
    by_cases cr : v.i 75 = 1
    · have c34 : COD f C (cdI v).toNat h o lv (TYR id h o lv 1 ps ek :: rs) E := by
        refine COD.ins (s := B) cxB (by omega) (fun g _ hE => ?_)
        rw [hE0] at hE
        obtain ⟨q1, q2, q3, q4⟩ := hE
        obtain ⟨⟨y1, y2⟩, y3⟩ := q3 (r1 cr)
        refine ⟨okJ_34 (c := (h, o, lv, false, TYR id h o lv 1 ps ek :: rs)) p1 ⟨TYR id h o lv 1 ps ek, rs, rfl, rfl, rfl, rfl, y1, fun z => ?_⟩, q1 _ (by omega)⟩
        exact (y2 z).mono (Nat.le_refl _) (by show ((cdI v).toNat : Int) + 1 ≤ gv f 32 id; omega)
      exact COD.seq c2 c34 (fun g _ hE => hE) (fun g hg hE hF => env g hg hE (fun _ => by rw [ek'] at hF; exact hF))
    · exact c2.imp (fun g hg hE => env g hg hE (fun q => absurd q cr))
  obtain ⟨S0, S1, z1⟩ := h1 f C Au Cu h o lv rs ps ek hx hy
  obtain ⟨S2, z2⟩ := cB'
  have stgu : STG u w := ((STG.cat cat).tr (STG.kp k2 s2.go s2.wa)).tr stgv
  refine ⟨S0, fun k c => S1 k c ∨ S2 k c, fun g hg hT0 hT q2 q3 q4 q5 => ?_⟩
  obtain ⟨f2, d2⟩ := z2 g hg (fun k c q => hT k c (Or.inr q)) (by rw [hE0]; exact ⟨q2, q3, q4, q5⟩)
  have ejt : EJT s u f g id h o lv rs ps ek := by
    intro γ b k a1 a2 a3
    have q := stgu.2.2.1
    have hγ : (γ : Int) < goI w := by have := a1.1; have := cat.go; omega
    have e47 : gv w 47 γ = gv u 47 γ := by unfold gv; rw [(q γ hγ).2.1]
    have acc : ACC w γ := ⟨hγ, by rw [(q γ hγ).1]; exact a1.2.1, fun δ d1 d2 => by rw [(q δ d2).1]; exact a1.2.2 δ d1 (by have := cat.go; omega)⟩
    obtain ⟨vt, j1, j2, j3⟩ := q5 γ b k acc (by rw [(q γ hγ).1]; exact a2) (a3.stg stgu iu.tn hγ)
    rw [e47] at j2 j3
    refine ⟨vt, ?_, j2, fun z y => j3 (z.stg stgu hγ) y⟩
    have := stgu.1
    rcases j1 with j1 | j1
    · exact Or.inl j1
    · exact Or.inr ⟨j1.1, by omega⟩
  obtain ⟨⟨f1', d1⟩, bd⟩ := z1 g hg hT0 (fun k c q => hT k c (Or.inl q)) (fun k hk => q2 k (by omega)) q3 (fun r => ⟨(q4 (r2 r)).1, by have := (q4 (r2 r)).2; omega⟩) ejt
  refine ⟨⟨fun j hj => ?_, fun k c q => ?_⟩, bd⟩
  · have w35 : (j : Int) < caI B → gv w 35 j = gv B 35 j := fun q => by
      unfold gv
      have e1 : w.a 35 j = B.a 35 j := khB.2.2.1 j q
      rw [e1]
    rcases List.mem_append.mp hj with q | q
    · have jl := hCL j q
      rw [w35 (by omega)]
      have e2 : gv B 35 j = gv u 35 j := by unfold gv; rw [cat.2.2.2.1 35 j (by omega) (by omega) jl]
      rw [e2]
      exact f1' j q
    · obtain ⟨n1, n2⟩ := cat.2.2.2.2.2.2.1 j q
      have n3 := (cat.2.2.2.2.2.2.2.1 j n1 n2).2.1
      rw [w35 n2, n3, ← cdB]
      exact f2
  · rcases q with q | q
    · exact d1 k c q
    · exact d2 k c q
end
section
/-! reading: try: the whole, typed -/
/-- the chain of a try's catches, in their order -/
def CACH (u : RS) : Int → List Nat → Prop
  | x, [] => x < 0
  | x, j :: L => x = (j : Int) ∧ (∀ i ∈ L, j < i) ∧ CACH u (gv u 37 j) L
theorem CACH.of {s u : RS} : ∀ {L : List Nat} {x : Int}, CACH s x L → (∀ j ∈ L, gv u 37 j = gv s 37 j) → CACH u x L
  | [], _, h, _ => h
  | j :: L, _, ⟨h1, h2, h3⟩, hu => by
    refine ⟨h1, h2, ?_⟩
    rw [hu j (List.mem_cons_self ..)]
    exact CACH.of h3 (fun i hi => hu i (List.mem_cons_of_mem _ hi))
theorem CACH.snoc {s u : RS} {e j : Nat} : ∀ {M : List Nat} {x : Int}, CACH s x (M ++ [j]) → (∀ i ∈ M, gv u 37 i = gv s 37 i) → gv u 37 j = (e : Int) → gv u 37 e < 0 → (∀ i ∈ M, i < e) → j < e → CACH u x (M ++ [j] ++ [e])
  | [], x, h, hu, hj, he, hM, hlt => by
    have h : CACH s x (j :: []) := h
    show CACH u x (j :: e :: [])
    refine ⟨h.1, fun i hi => ?_, ?_⟩
    · rcases List.mem_cons.mp hi with q | q
      · rw [q]; exact hlt
      · exact absurd q List.not_mem_nil
    · rw [hj]
      exact ⟨rfl, fun i hi => absurd hi List.not_mem_nil, he⟩
  | m :: M, x, h, hu, hj, he, hM, hlt => by
    have h : CACH s x (m :: (M ++ [j])) := h
    show CACH u x (m :: (M ++ [j] ++ [e]))
    obtain ⟨h1, h2, h3⟩ := h
    refine ⟨h1, fun i hi => ?_, ?_⟩
    · rcases List.mem_append.mp hi with q | q
      · exact h2 i q
      · rcases List.mem_cons.mp q with q | q
        · rw [q]; exact hM m (List.mem_cons_self ..)
        · exact absurd q List.not_mem_nil
    · rw [hu m (List.mem_cons_self ..)]
      exact CACH.snoc h3 (fun i hi => hu i (List.mem_cons_of_mem _ hi)) hj he (fun i hi => hM i (List.mem_cons_of_mem _ hi)) hlt
theorem CACH.inn {W : RS} {j : Nat} : ∀ {n : Nat} {x : Int} {L : List Nat}, catchIn W j n x → CACH W x L → j ∈ L
  | 0, _, _, h, _ => h.elim
  | n + 1, x, [], h, q => by
    have q : x < 0 := q
    have := h.1
    omega
  | n + 1, x, i :: L, h, q => by
    obtain ⟨h0, h1⟩ := h
    obtain ⟨q1, q2, q3⟩ := q
    rcases h1 with h1 | h1
    · have : j = i := by omega
      rw [this]; exact List.mem_cons_self ..
    · have e : x.toNat = i := by omega
      rw [e] at h1
      exact List.mem_cons_of_mem _ (CACH.inn h1 q3)
theorem CACH.mem {W : RS} {j : Nat} : ∀ {n : Nat} {x : Int} {L : List Nat}, CACH W x L → j ∈ L → L.length ≤ n → catchIn W j n x
  | _, _, [], _, h, _ => absurd h List.not_mem_nil
  | 0, _, _ :: _, _, _, h => absurd h (Nat.not_succ_le_zero _)
  | n + 1, x, i :: L, q, h, hn => by
    obtain ⟨q1, q2, q3⟩ := q
    refine ⟨by omega, ?_⟩
    rcases List.mem_cons.mp h with h | h
    · left; rw [q1, h]
    · right
      have e : x.toNat = i := by omega
      rw [e]
      exact CACH.mem q3 h (Nat.le_of_succ_le_succ hn)
theorem CACH.nd {W : RS} : ∀ {L : List Nat} {x : Int}, CACH W x L → ND L
  | [], _, _ => True.intro
  | i :: L, _, q => ⟨fun h => by have := q.2.1 i h; omega, CACH.nd q.2.2⟩
theorem CACH.nxt {W : RS} {j : Nat} : ∀ {L : List Nat} {x : Int}, CACH W x L → j ∈ L → gv W 37 j < 0 ∨ ∃ i ∈ L, gv W 37 j = (i : Int) ∧ j < i
  | [], _, _, h => absurd h List.not_mem_nil
  | i :: [], _, q, h => by
    rcases List.mem_cons.mp h with h | h
    · subst h; exact Or.inl q.2.2
    · exact absurd h List.not_mem_nil
  | i :: m :: L, _, q, h => by
    rcases List.mem_cons.mp h with h | h
    · subst h
      have q3 : CACH W (gv W 37 j) (m :: L) := q.2.2
      exact Or.inr ⟨m, List.mem_cons_of_mem _ (List.mem_cons_self ..), q3.1, q.2.1 m (List.mem_cons_self ..)⟩
    · rcases CACH.nxt (L := m :: L) q.2.2 h with r | ⟨y, y1, y2, y3⟩
      · exact Or.inl r
      · exact Or.inr ⟨y, List.mem_cons_of_mem _ y1, y2, y3⟩
theorem AGZ.comp {Z : Nat → Nat → Prop} {s u W f : RS} (h1 : AGZ Z s u W) (h2 : AG0 s W f) (ho : ∀ k : Nat, cdI s ≤ k → (k : Int) < cdI u → OPN W k → OPN u k) (hca : caI u ≤ caI W) : AGZ Z s u f := by
  obtain ⟨a1, a2, a3, a4, a5, a6, a7, a8⟩ := h1
  obtain ⟨b1, b2, b3, b4, b5, b6, b7, b8⟩ := h2
  exact ⟨by omega, by omega, by omega, by omega, fun k k1 k2 => ⟨(b5 k k1 (by omega)).1.trans (a5 k k1 k2).1, fun z => ⟨(b5 k k1 (by omega)).2.1.trans ((a5 k k1 k2).2 z).1, fun q => ((b5 k k1 (by omega)).2.2 (fun y => q (ho k k1 k2 y))).trans (((a5 k k1 k2).2 z).2 q)⟩⟩, fun k k1 k2 => ⟨(b6 k k1 (by omega)).1.trans (a6 k k1 k2).1, (b6 k k1 (by omega)).2.2.trans (a6 k k1 k2).2.1, fun z => (b6 k k1 (by omega)).2.1.trans ((a6 k k1 k2).2.2 z)⟩, fun k k1 k2 z => ⟨(b7 k k1 (by omega)).1.trans (a7 k k1 k2 z).1, (b7 k k1 (by omega)).2.1.trans (a7 k k1 k2 z).2.1, (b7 k k1 (by omega)).2.2.trans (a7 k k1 k2 z).2.2⟩, fun k k1 k2 => ⟨(b8 k k1 (by omega)).1.trans (a8 k k1 k2).1, (b8 k k1 (by omega)).2.1.trans (a8 k k1 k2).2.1, fun z => (b8 k k1 (by omega)).2.2.trans ((a8 k k1 k2).2.2 z)⟩⟩
/-- what a finally gives -/
def FINP (id : Nat) (ps ek : Bool) (s u W : RS) : Prop := ∀ (f : RS) (C : Nat → Bool), AG0 s W f → AGC s W C → ∀ (h o v : Nat) (rs : List Rec), CX s h o v rs → YE s rs → ∃ S : Nat → Ctx → Prop, ∀ g : Gh, g.isC = C → (∀ k c, S k c → g.T k c) → ENS s W f h o v rs g → (∀ k : Nat, (k : Int) < cdI W → recsOK f g k v (TYR id h o v 2 ps ek :: rs)) → (0 ≤ gv f 31 id → cdI u ≤ gv f 31 id ∧ FL f g v (gv f 31 id) (gv f 31 id) h o (TYR id h o v 2 ps ek :: rs)) ∧ ∀ k c, S k c → GOOD f g k c
theorem FINP.none {id : Nat} {ps ek : Bool} {s u W : RS} (h31 : gv W 31 id < 0) (hid : trI s ≤ (id : Int)) (h2 : (id : Int) < trI W) : FINP id ps ek s u W := by
  intro f C hA _ h o v rs _ _
  have e : gv f 31 id = gv W 31 id := by unfold gv; rw [(hA.2.2.2.2.2.2.1 id hid h2).2.1]
  exact ⟨fun _ _ => False, fun g _ _ _ _ => ⟨fun q => by omega, fun _ _ q => q.elim⟩⟩
theorem lvA_tr {f : RS} {d h vt id o v p : Nat} {x : Int} {ps ek : Bool} {rs : List Rec} (hl : lvA f d h vt x rs) (hv : vt < v ∨ vt ≤ v ∧ gv f 32 id ≤ x) : lvA f d h vt x (TYR id h o v p ps ek :: rs) := Or.inr ⟨by show ¬ (4 : Nat) = 3; decide, fun _ => ⟨rfl, hv⟩, hl⟩
/-- a finally -/
theorem FINP.blk {t id : Nat} {ps ek : Bool} {s u B v W : RS} (hI : INV s) (ts : TS B v) (kB : KP t s B) (k2 : KP t B v) (s2 : SAME B v) (iv : INVW v) (lat : LAT noZ B v W) (cW : cdI W = cdI v + 1) (W21 : W.a 21 (cdI v).toNat = 35) (W31 : gv W 31 id = cdI B) (W32 : gv W 32 id = cdI W) (cu : cdI u ≤ cdI B) (B38 : B.i 38 = s.i 38) (dB : deI B = deI s + 1) (gB : goI B = goI s) (gW : goI W = goI s) (fB : fr s ≤ fr B) (f9 : fr B ≤ 900) (d9 : deI B ≤ 250) (hid : trI s ≤ (id : Int)) (h2 : (id : Int) < trI W) (W4 : ∀ γ : Nat, (γ : Int) < goI s → W.a 44 γ = v.a 44 γ ∧ W.a 47 γ = v.a 47 γ) (hst : ∀ (γ : Nat) (b : Bool) (k : Nat), (γ : Int) < goI s → SITE B v γ b k → SITE s W γ b k) (harv : ∀ (γ : Nat) (b : Bool), (γ : Int) < goI s → ARV v γ b → ARV W γ b) (hps : v.i 75 = 1 → ps = true) (hek : ek = true → W.i 75 = 1) : FINP id ps ek s u W := by
  intro f C hA hC h o lv rs hx hy
  have fv := iv.1.f0
  have cv := iv.cd
  have le := k2.2.1.1
  have cs := kB.2.1.1
  have ek' : ((cdI v).toNat : Int) = cdI v := Int.toNat_of_nonneg cv.1
  have hx1 := hx.1
  have hx2 := hx.2.1
  have hx3 := hx.2.2.1
  obtain ⟨r0, r1, r2⟩ := hA.2.2.2.2.2.2.1 id hid h2
  have e31 : gv f 31 id = cdI B := by rw [← W31]; unfold gv; rw [r1]
  have e32 : gv f 32 id = cdI W := by rw [← W32]; unfold gv; rw [r2]
  obtain ⟨AB, CB⟩ := lat.use hA hC kB k2
  have kg := kB.2.2.2.2.2.2.1
  have hds : ∀ γ : Nat, (γ : Int) < goI s → gv s 47 γ ≤ (rs.length : Int) := fun γ hγ => by
    have := hI.2.2.2.1.2.2.2.2.2.2.1 γ hγ; omega
  have cxB : CX B h o lv (TYR id h o lv 2 ps ek :: rs) := hx.tr dB fB f9 d9 (by omega) (Or.inr rfl)
  have c2 := ts f C AB CB h o lv _ cxB (hy.tr gB kg.2.1 kg.2.2.1 hds)
  obtain ⟨p1, p2, p3, p4⟩ := hA.cell (k := (cdI v).toNat) (o := 35) (x := W.a 22 (cdI v).toNat) (by omega) (by omega) W21 rfl (by decide)
  have gvB : goI v = goI B := s2.go
  have env : ∀ g : Gh, ENS s W f h o lv rs g → (∀ k : Nat, (k : Int) < cdI W → recsOK f g k lv (TYR id h o lv 2 ps ek :: rs)) → (v.i 75 = 1 → FL f g lv (cdI v) (cdI v) h o (TYR id h o lv 2 ps ek :: rs)) → ENS B v f h o lv (TYR id h o lv 2 ps ek :: rs) g := fun g hE hR hF => by
    refine ⟨ENB.mid (s := s) (w := W) ⟨hR, hE.1.2⟩ kB B38 (by omega), hF, fun γ b k a1 a2 a3 => ?_⟩
    have hγ : (γ : Int) < goI s := by have := a1.1; omega
    have e47 : gv W 47 γ = gv v 47 γ := by unfold gv; rw [(W4 γ hγ).2]
    have acc : ACC W γ := ⟨by omega, by rw [(W4 γ hγ).1]; exact a1.2.1, fun δ d1 d2 => by rw [(W4 δ (by omega)).1]; exact a1.2.2 δ d1 (by omega)⟩
    obtain ⟨vt, j1, j2, j3⟩ := hE.2.2 γ b k acc (by rw [(W4 γ hγ).1]; exact a2) (hst γ b k hγ a3)
    rw [e47] at j2 j3
    have hd' : (gv v 47 γ).toNat ≤ rs.length := by
      have q := hds γ hγ
      have q2 : gv v 47 γ = gv s 47 γ := by
        have kg2 := k2.2.2.2.2.2.2.1
        unfold gv; rw [kg2.2.2.1 γ (by omega), kg.2.2.1 γ hγ]
      omega
    refine ⟨vt, ?_, lvA_tr j2 (by rw [e32]; exact j1), fun z y => ?_⟩
    · rcases j1 with j1 | j1
      · exact Or.inl j1
      · exact Or.inr ⟨j1.1, by omega⟩
    · refine (j3 (harv γ b hγ z) ?_).tr hd' rfl
      rcases y with y | y
      · have y : rs.length + 1 ≤ (gv v 47 γ).toNat := y
        omega
      · exact y.2
  have cB' : COD f C (cdI B) h o lv (TYR id h o lv 2 ps ek :: rs) (fun g => ENS s W f h o lv rs g ∧ ∀ k : Nat, (k : Int) < cdI W → recsOK f g k lv (TYR id h o lv 2 ps ek :: rs)) := by
    by_cases cr : v.i 75 = 1
    · have c35 : COD f C (cdI v).toNat h o lv (TYR id h o lv 2 ps ek :: rs) (fun g => ENS s W f h o lv rs g ∧ ∀ k : Nat, (k : Int) < cdI W → recsOK f g k lv (TYR id h o lv 2 ps ek :: rs)) := by
        refine COD.ins (s := B) cxB (by omega) (fun g _ hE => ⟨?_, hE.2 _ (by omega)⟩)
        refine okJ_35 (c := (h, o, lv, false, TYR id h o lv 2 ps ek :: rs)) p1 ⟨TYR id h o lv 2 ps ek, rs, rfl, rfl, rfl, rfl, rfl, hps cr, fun z => ?_⟩
        show FL f g lv (((cdI v).toNat : Int) + 1) (((cdI v).toNat : Int) + 1) h o rs
        rw [ek', ← cW]
        exact hE.1.2.1 (hek z)
      exact COD.seq c2 c35 (fun g _ hE => hE) (fun g hg hE hF => env g hE.1 hE.2 (fun _ => by rw [ek'] at hF; exact hF))
    · exact c2.imp (fun g hg hE => env g hE.1 hE.2 (fun q => absurd q cr))
  obtain ⟨S, hS⟩ := cB'
  refine ⟨S, fun g hg hT hE hR => ?_⟩
  obtain ⟨q1, q2⟩ := hS g hg hT ⟨hE, hR⟩
  exact ⟨fun _ => ⟨by omega, by rw [e31]; exact q1⟩, q2⟩
/-- a try -/
theorem TS.try {t id : Nat} {CL : List Nat} {s u W : RS} {e : Int} {ρ : Prop} {ps ek : Bool} (hI : INV s) (trx : TRX CL id (cdI s + 2) e ρ s u) (ksu : KP t s u) (u1 : u.a 21 (cdI s).toNat = 1) (u2 : u.a 21 (cdI s + 1).toNat = 31) (u3 : (u.a 22 (cdI s + 1).toNat).toInt = (id : Int)) (c2 : cdI s + 2 ≤ e) (eu : e ≤ cdI u) (hid : (id : Int) = trI s) (tru : trI s + 1 ≤ trI u) (hch : CACH W (gv W 30 id) CL) (hCL : ∀ j ∈ CL, caI s ≤ (j : Int) ∧ (j : Int) < caI u ∧ e ≤ gv u 35 j) (lat : LAT (ZT id CL) s u W) (gW : goI W = goI s) (gu : goI u = goI s) (W4 : ∀ γ : Nat, (γ : Int) < goI s → W.a 44 γ = u.a 44 γ ∧ W.a 47 γ = u.a 47 γ) (hst : ∀ (γ : Nat) (b : Bool) (k : Nat), (γ : Int) < goI s → SITE s u γ b k → SITE s W γ b k) (kW : KP t s W) (slW : slI W ≤ 460) (W32 : gv W 32 id = cdI W) (hend : ρ → (0 ≤ gv W 31 id → ps = true → ek = true) ∧ (¬ 0 ≤ gv W 31 id → W.i 75 = 1)) (hrs : (0 ≤ gv W 31 id → ps = true) → ∀ (γ : Nat) (b : Bool), (γ : Int) < goI s → ARV u γ b → ARV W γ b) (fin : FINP id ps ek s u W) : TS s W := by
  intro f C hA hC h o lv rs hx hy
  have cs := hI.cd
  have sl0 : 0 ≤ slI s := by have := hI.2.2.2.2.2.2.2.2.2.1; omega
  have hx1 := hx.1
  have hx2 := hx.2.1
  have hx3 := hx.2.2.1
  have f9 := hx.2.2.2.2.2.2.1
  have cuW := lat.1.1
  have trW := lat.1.2.2.1
  have caW := lat.2.2.1
  have cWf := hA.1
  have tWf := hA.2.2.1
  obtain ⟨r0, r1, r2⟩ := hA.2.2.2.2.2.2.1 id (by omega) (by omega)
  have e30 : gv f 30 id = gv W 30 id := by unfold gv; rw [r0]
  have e31 : gv f 31 id = gv W 31 id := by unfold gv; rw [r1]
  have e32 : gv f 32 id = cdI W := by rw [← W32]; unfold gv; rw [r2]
  have Au := AGZ.comp lat.1 hA lat.2.1 caW
  have Cu : AGC s u C := hC.mid (KP.rf t s) ksu lat.2.2.2.1 caW lat.2.2.2.2.1 lat.2.2.2.2.2
  obtain ⟨S0, S1, z1⟩ := trx f C Au Cu h o lv rs ps ek hx hy
  obtain ⟨S2, z2⟩ := fin f C hA hC h o lv rs hx hy
  have hd := hI.g47 gu ksu.2.2.2.2.2.2.1.2.2.1 hx1
  have ek1 : ((cdI s + 1).toNat : Int) = cdI s + 1 := Int.toNat_of_nonneg (by omega)
  have hW1 : W.a 21 (cdI s).toNat = 1 := by rw [(lat.1.2.2.2.2.1 (cdI s).toNat (by omega) (by omega)).1]; exact u1
  have hW2 : W.a 21 (cdI s + 1).toNat = 31 := by rw [(lat.1.2.2.2.2.1 (cdI s + 1).toNat (by omega) (by omega)).1]; exact u2
  have hW3 : W.a 22 (cdI s + 1).toNat = u.a 22 (cdI s + 1).toNat := ((lat.1.2.2.2.2.1 (cdI s + 1).toNat (by omega) (by omega)).2 (fun q => by
    rcases q with q | q
    · exact absurd q.1 (by decide)
    · exact absurd q.1 (by decide))).2 (fun q => by rw [q.n36] at u2; exact absurd u2 (by decide))
  obtain ⟨p1, p2, p3, p4⟩ := hA.cell (k := (cdI s + 1).toNat) (o := 31) (x := u.a 22 (cdI s + 1).toNat) (by omega) (by omega) hW2 hW3 (by decide)
  rw [u3] at p2
  have hchf : CACH f (gv f 30 id) CL := by
    rw [e30]
    refine hch.of (fun j hj => ?_)
    have := hCL j hj
    unfold gv
    rw [(hA.2.2.2.2.2.2.2 j (by omega) (by omega)).2.2]
  have kh := kW.2.2.2.2.1
  have c31 : COD f C (cdI s + 1) h o lv rs (ENS s W f h o lv rs) := by
    refine ⟨fun k c => (S0 k c ∨ S1 k c) ∨ (S2 k c ∨ (k = (cdI s + 1).toNat ∧ c = (h, o, lv, false, rs))), fun g hg hT hE => ?_⟩
    have rec2 : ∀ k : Nat, (k : Int) < cdI W → recsOK f g k lv (TYR id h o lv 2 ps ek :: rs) := fun k hk => ⟨⟨by show h ≤ 1300; omega, by show o ≤ 450; omega, Or.inr (Or.inr (Or.inr ⟨rfl, by show (id : Int) < trI f; omega, Nat.le_refl _, Nat.le_refl _, by show (k : Int) < gv f 32 id; omega, fun q => absurd q (by show ¬ (2 : Nat) = 0; decide), fun q => absurd q (by show ¬ (2 : Nat) < 2; decide)⟩))⟩, hE.1.1 k hk⟩
    obtain ⟨fl2, d2⟩ := z2 g hg (fun k c q => hT k c (Or.inr (Or.inl q))) hE rec2
    have fin1 : ∀ k : Nat, (k : Int) < cdI u → 0 ≤ gv f 31 id → FL f g lv ((k : Int) + 1) (gv f 31 id) h o (TYR id h o lv 2 ps ek :: rs) := fun k hk q => (fl2 q).2.mono (Nat.le_refl _) (by have := (fl2 q).1; omega)
    have rec1 : ∀ k : Nat, (k : Int) < cdI u → recsOK f g k lv (TYR id h o lv 1 ps ek :: rs) := fun k hk => ⟨⟨by show h ≤ 1300; omega, by show o ≤ 450; omega, Or.inr (Or.inr (Or.inr ⟨rfl, by show (id : Int) < trI f; omega, by show (1 : Nat) ≤ 2; decide, Nat.le_refl _, by show (k : Int) < gv f 32 id; omega, fun q => absurd q (by show ¬ (1 : Nat) = 0; decide), fun _ q => fin1 k hk q⟩))⟩, hE.1.1 k (by omega)⟩
    have ejt : EJT s u f g id h o lv rs ps ek := by
      intro γ b k a1 a2 a3
      have hγ : (γ : Int) < goI s := by have := a1.1; omega
      have e47 : gv W 47 γ = gv u 47 γ := by unfold gv; rw [(W4 γ hγ).2]
      have acc : ACC W γ := ⟨by omega, by rw [(W4 γ hγ).1]; exact a1.2.1, fun δ d1 d2 => by rw [(W4 δ (by omega)).1]; exact a1.2.2 δ d1 (by omega)⟩
      obtain ⟨vt, j1, j2, j3⟩ := hE.2.2 γ b k acc (by rw [(W4 γ hγ).1]; exact a2) (hst γ b k hγ a3)
      rw [e47] at j2 j3
      have hd' := hd γ (by omega)
      refine ⟨vt, ?_, lvA_tr j2 (by rw [e32]; exact j1), fun z y => ?_⟩
      · rcases j1 with j1 | j1
        · exact Or.inl j1
        · exact Or.inr ⟨j1.1, by omega⟩
      · rcases y with y | y
        · have y : rs.length + 1 ≤ (gv u 47 γ).toNat := y
          omega
        · exact j3 (hrs (fun q => y.1 rfl (by show (0 : Nat) < 2; decide) (by show 0 ≤ gv f 31 id; omega)) γ b hγ z) y.2
    obtain ⟨⟨fl1, d1⟩, bd⟩ := z1 g hg (fun k c q => hT k c (Or.inl (Or.inl q))) (fun k c q => hT k c (Or.inl (Or.inr q))) rec1 hE.1.2 (fun r => by
      obtain ⟨h1, h2⟩ := hend r
      refine ⟨⟨fun q => h1 (by omega), fun q => ?_⟩, by omega⟩
      rw [e32]
      exact hE.2.1 (h2 (by omega))) ejt
    have rec0 : ∀ k : Nat, (k : Int) < e → recsOK f g k lv (TYR id h o lv 0 ps ek :: rs) := fun k hk => by
      refine ⟨⟨by show h ≤ 1300; omega, by show o ≤ 450; omega, Or.inr (Or.inr (Or.inr ⟨rfl, by show (id : Int) < trI f; omega, by show (0 : Nat) ≤ 2; decide, Nat.le_refl _, by show (k : Int) < gv f 32 id; omega, fun _ j hj => ?_, fun _ q => fin1 k (by omega) q⟩))⟩, hE.1.1 k (by omega)⟩
      have hj : catchIn f j 400 (gv f 30 id) := hj
      have jL := hchf.inn hj
      obtain ⟨n1, n2, n3⟩ := hCL j jL
      obtain ⟨m1, m2⟩ := kh.2.2.2.2.2 j n1 (by omega)
      have f36 : gv f 36 j = gv W 36 j := by unfold gv; rw [(hA.2.2.2.2.2.2.2 j n1 (by omega)).2.1]
      have f35 : gv f 35 j = gv u 35 j := by unfold gv; rw [(Au.2.2.2.2.2.2.2 j n1 n2).1]
      have es : ((gv W 36 j).toNat : Int) = gv W 36 j := Int.toNat_of_nonneg (by omega)
      refine ⟨by omega, by omega, ?_, ?_⟩
      · rw [f36, hg]
        exact (hC (gv W 36 j).toNat (by omega) (by omega)).mpr ⟨j, n1, by omega, by omega⟩
      · rw [f35]
        exact (fl1 j jL).mono (Nat.le_refl _) (by omega)
    obtain ⟨flb, d0⟩ := bd rec0
    refine ⟨⟨by omega, by omega, fun _ => ⟨(h, o, lv, false, rs), hT _ _ (Or.inr (Or.inr ⟨rfl, rfl⟩)), rfl, Nat.le_refl _, rfl, rfl, Or.inr ⟨Nat.le_refl _, Int.le_refl _⟩⟩⟩, fun k c q => ?_⟩
    rcases q with (q | q) | (q | ⟨q1, q2⟩)
    · exact d0 k c q
    · exact d1 k c q
    · exact d2 k c q
    · subst q1
      subst q2
      refine hx.good (fun q => by cases q) (okJ_31 (c := (h, o, lv, false, rs)) p1 ⟨by rw [p2]; omega, by rw [p2]; show (id : Int) < trI f; omega, ps, ek, ?_⟩) (hE.1.1 _ (by omega))
      show FL f g lv (((cdI s + 1).toNat : Int) + 1) (((cdI s + 1).toNat : Int) + 1) h o ((4, (gv f 22 (cdI s + 1).toNat).toNat, 0, h, o, lv, ps, ek) :: rs)
      have e1 : (((cdI s + 1).toNat : Int) + 1) = cdI s + 2 := by omega
      rw [e1, p2, Int.toNat_natCast]
      exact flb
  exact COD.step hA hx cs.1 (by omega) hW1 (fun g _ hE => hE.1.1) c31
end
section
/-! reading: try: what waits at its wall -/
def RSV (x1 x2 x3 : Int32) (σ R : RS) : Prop := R.i = σ.i ∧ R.b = σ.b ∧ (∀ k : Nat, k ≠ 50 → k ≠ 51 → k ≠ 62 → R.a k = σ.a k) ∧ (∀ γ : Nat, σ.a 50 γ = 1 → R.a 50 γ = 1) ∧ (∀ γ : Nat, σ.a 51 γ = 1 → R.a 51 γ = 1) ∧ (∀ p : Nat, ¬ σ.a 62 p = x1 → R.a 62 p = σ.a 62 p) ∧ (∀ p : Nat, (p : Int) < x3.toInt ∨ peI σ ≤ (p : Int) → R.a 62 p = σ.a 62 p) ∧ (∀ p : Nat, x3.toInt ≤ p → (p : Int) < peI σ → σ.a 62 p = x1 → R.a 62 p = -1 ∧ (x2 = 1 → R.a (if σ.a 61 p = 0 then 51 else 50) (gv σ 60 p).toNat = 1) ∨ x2 = 1 ∧ 0 < waI σ ∧ R.a 62 p = σ.a 57 (waI σ - 1).toNat ∧ gv σ 60 p < gv σ 58 (waI σ - 1).toNat)
theorem RSV.skip {x1 x2 x3 : Int32} {σ R : RS} (h : RSV x1 x2 (x3 + 1) σ R) (e : (x3 + 1).toInt = x3.toInt + 1) (n : Nat) (hn : x3.toInt = n) (hne : ¬ σ.a 62 n = x1) : RSV x1 x2 x3 σ R := by
  obtain ⟨h1, h2, h3, h4, h5, h6, h7, h8⟩ := h
  refine ⟨h1, h2, h3, h4, h5, h6, fun p hp => h7 p (by omega), fun p p1 p2 p3 => ?_⟩
  by_cases c : p = n
  · subst c; exact absurd p3 hne
  · exact h8 p (by omega) p2 p3
/-- one that waits is seen to -/
theorem RSV.one {x1 x2 x3 : Int32} {σ S R : RS} {n : Nat} {v : Int32} (h : RSV x1 x2 (x3 + 1) S R) (e : (x3 + 1).toInt = x3.toInt + 1) (hn : x3.toInt = n) (hp : (n : Int) < peI σ) (si : S.i = σ.i) (sb : S.b = σ.b) (sa : ∀ k : Nat, k ≠ 50 → k ≠ 51 → k ≠ 62 → S.a k = σ.a k) (s50 : ∀ γ : Nat, σ.a 50 γ = 1 → S.a 50 γ = 1) (s51 : ∀ γ : Nat, σ.a 51 γ = 1 → S.a 51 γ = 1) (s62 : ∀ p : Nat, p ≠ n → S.a 62 p = σ.a 62 p) (sn : S.a 62 n = v) (σn : σ.a 62 n = x1) (hv : v = -1 ∧ (x2 = 1 → S.a (if σ.a 61 n = 0 then 51 else 50) (gv σ 60 n).toNat = 1) ∨ x2 = 1 ∧ 0 < waI σ ∧ v = σ.a 57 (waI σ - 1).toNat ∧ gv σ 60 n < gv σ 58 (waI σ - 1).toNat) : RSV x1 x2 x3 σ R := by
  obtain ⟨h1, h2, h3, h4, h5, h6, h7, h8⟩ := h
  have ep : peI S = peI σ := by unfold peI; rw [si]
  have ew : waI S = waI σ := by unfold waI; rw [si]
  rw [ep] at h7 h8
  rw [ew] at h8
  refine ⟨h1.trans si, h2.trans sb, fun k a b c => (h3 k a b c).trans (sa k a b c), fun γ q => h4 γ (s50 γ q), fun γ q => h5 γ (s51 γ q), fun p hpn => ?_, fun p hp' => ?_, fun p p1 p2 p3 => ?_⟩
  · have : p ≠ n := fun q => hpn (by rw [q]; exact σn)
    rw [h6 p (by rw [s62 p this]; exact hpn), s62 p this]
  · have : p ≠ n := by omega
    rw [h7 p (by omega), s62 p this]
  · by_cases c : p = n
    · subst c
      have eR : R.a 62 p = v := (h7 p (by omega)).trans sn
      rcases hv with ⟨v1, v2⟩ | ⟨v1, v2, v3, v4⟩
      · refine Or.inl ⟨eR.trans v1, fun q => ?_⟩
        have := v2 q
        by_cases c0 : σ.a 61 p = 0
        · rw [if_pos c0] at this ⊢; exact h5 _ this
        · rw [if_neg c0] at this ⊢; exact h4 _ this
      · exact Or.inr ⟨v1, v2, eR.trans v3, v4⟩
    · have e60 : gv S 60 p = gv σ 60 p := gv_of (sa 60 (by decide) (by decide) (by decide)) p
      have e58 : gv S 58 (waI σ - 1).toNat = gv σ 58 (waI σ - 1).toNat := gv_of (sa 58 (by decide) (by decide) (by decide)) _
      have := h8 p (by omega) p2 (by rw [s62 p c]; exact p3)
      rw [sa 61 (by decide) (by decide) (by decide), sa 57 (by decide) (by decide) (by decide), e60, e58] at this
      exact this
theorem p_gs {N : Nat} {σ : RS} {x1 x2 : Int32} {g : Nat} (hx : x1.toInt = g) (h4 : g < 460) : ∃ S, f_X12_goes N σ x1 x2 = some S ∧ S.i = σ.i ∧ S.b = σ.b ∧ (∀ k : Nat, k ≠ 50 → k ≠ 51 → S.a k = σ.a k) ∧ (∀ γ : Nat, σ.a 50 γ = 1 → S.a 50 γ = 1) ∧ (∀ γ : Nat, σ.a 51 γ = 1 → S.a 51 γ = 1) ∧ S.a (if x2 = 0 then 51 else 50) g = 1 := by
  have ibx : ib x1 460 := ⟨by omega, by omega⟩
  have nx := k_nat hx
  unfold f_X12_goes
  by_cases c : x2 = 0
  · rw [if_pos c, if_pos ibx, nx, if_pos c]
    refine ⟨_, rfl, rfl, rfl, fun k _ h2 => setA_nk h2, fun γ q => (congrFun (setA_nk (by decide)) γ).trans q, fun γ q => ?_, setA_at⟩
    by_cases e : γ = g
    · rw [e]; exact setA_at
    · exact (setA_ne e).trans q
  · rw [if_neg c, if_pos ibx, nx, if_neg c]
    refine ⟨_, rfl, rfl, rfl, fun k h1 _ => setA_nk h1, fun γ q => ?_, fun γ q => (congrFun (setA_nk (by decide)) γ).trans q, setA_at⟩
    by_cases e : γ = g
    · rw [e]; exact setA_at
    · exact (setA_ne e).trans q
theorem p_rsl {N : Nat} {x1 x2 : Int32} (hx2 : x2 = 0 ∨ x2 = 1) : ∀ (n : Nat) (σ : RS) (x3 : Int32), 0 ≤ x3.toInt → peI σ ≤ 300 → 0 ≤ waI σ → waI σ ≤ 40 → (∀ p : Nat, (p : Int) < peI σ → 0 ≤ gv σ 60 p ∧ gv σ 60 p < 460) → x3.toInt ≤ 300 → 1 ≤ n → peI σ - x3.toInt < n → ∃ R, f_X12_resolve_2 N n σ x1 x2 x3 = some R ∧ RSV x1 x2 x3 σ R
  | 0, σ, x3, h0, hp, hw0, hw4, hg, h3, h1n, hn => by omega
  | n + 1, σ, x3, h0, hp, hw0, hw4, hg, h3, h1n, hn => by
    show ∃ R, b_X12_resolve_2 N (f_X12_resolve_2 N n) σ x1 x2 x3 = some R ∧ _
    unfold b_X12_resolve_2
    have e1 : (1 : Int32).toInt = 1 := by decide
    have ex : (x3 + 1).toInt = x3.toInt + 1 := by rw [toInt_add] <;> rw [e1] <;> omega
    by_cases c : σ.i 59 ≤ x3
    · rw [if_pos c]
      have c := Int32.le_iff_toInt_le.mp c
      have c : peI σ ≤ x3.toInt := c
      exact ⟨σ, rfl, rfl, rfl, fun _ _ _ _ => rfl, fun _ q => q, fun _ q => q, fun _ _ => rfl, fun _ _ => rfl, fun p p1 p2 _ => by omega⟩
    rw [if_neg c]
    have c : ¬ peI σ ≤ x3.toInt := fun q => c (Int32.le_iff_toInt_le.mpr q)
    obtain ⟨k, hk⟩ : ∃ k : Nat, x3.toInt = (k : Int) := ⟨x3.toInt.toNat, (Int.toNat_of_nonneg h0).symm⟩
    rw [if_pos (show ib x3 300 from ⟨h0, by omega⟩), k_nat hk]
    have g60 := hg k (by omega)
    have go : ∀ S : RS, S.i = σ.i → (∀ j : Nat, j ≠ 50 → j ≠ 51 → j ≠ 62 → S.a j = σ.a j) → ∃ R, f_X12_resolve_2 N n S x1 x2 (x3 + 1) = some R ∧ RSV x1 x2 (x3 + 1) S R := fun S si sa => by
      have ep : peI S = peI σ := by unfold peI; rw [si]
      have ew : waI S = waI σ := by unfold waI; rw [si]
      exact p_rsl hx2 n S (x3 + 1) (by omega) (by omega) (by omega) (by omega) (fun p hp' => by rw [gv_of (sa 60 (by decide) (by decide) (by decide)) p]; exact hg p (by omega)) (by omega) (by omega) (by omega)
    by_cases c62 : σ.a 62 k = x1
    case neg =>
      rw [if_neg c62]
      obtain ⟨R, eR, hR⟩ := go σ rfl (fun _ _ _ _ => rfl)
      exact ⟨R, eR, hR.skip ex k hk c62⟩
    rw [if_pos c62]
    have mark : x2 = 1 → ∃ R, ((f_X12_goes N (RS.setA σ 62 k (-1)) (σ.a 60 k) (σ.a 61 k)).bind fun p8 => f_X12_resolve_2 N n p8 x1 x2 (x3 + 1)) = some R ∧ RSV x1 x2 x3 σ R := fun _ => by
      have e60 : (σ.a 60 k).toInt = (((gv σ 60 k).toNat : Nat) : Int) := (Int.toNat_of_nonneg g60.1).symm
      obtain ⟨S, eS, s1, s2, s3, s4, s5, s6⟩ := p_gs (N := N) (σ := RS.setA σ 62 k (-1)) (x2 := σ.a 61 k) e60 (by omega)
      rw [eS]
      obtain ⟨R, eR, hR⟩ := go S s1 (fun j h1 h2 h3 => (s3 j h1 h2).trans (setA_nk h3))
      refine ⟨R, eR, hR.one (v := -1) ex hk (by omega) s1 s2 (fun j h1 h2 h3 => (s3 j h1 h2).trans (setA_nk h3)) (fun γ q => s4 γ ((congrFun (setA_nk (by decide)) γ).trans q)) (fun γ q => s5 γ ((congrFun (setA_nk (by decide)) γ).trans q)) (fun p hp' => by rw [s3 62 (by decide) (by decide)]; exact setA_ne hp') (by rw [s3 62 (by decide) (by decide)]; exact setA_at) c62 (Or.inl ⟨rfl, fun _ => s6⟩)⟩
    by_cases c2 : x2 = 0
    · rw [if_pos c2]
      obtain ⟨R, eR, hR⟩ := go (RS.setA σ 62 k (-1)) rfl (fun j _ _ h3 => setA_nk h3)
      refine ⟨R, eR, hR.one (v := -1) ex hk (by omega) rfl rfl (fun j _ _ h3 => setA_nk h3) (fun γ q => (congrFun (setA_nk (by decide)) γ).trans q) (fun γ q => (congrFun (setA_nk (by decide)) γ).trans q) (fun p hp' => setA_ne hp') setA_at c62 (Or.inl ⟨rfl, fun q => ?_⟩)⟩
      rw [c2] at q; exact absurd q (by decide)
    have x21 : x2 = 1 := hx2.resolve_left c2
    rw [if_neg c2]
    by_cases cw : σ.i 56 ≤ 0
    · rw [if_pos cw]; exact mark x21
    rw [if_neg cw]
    have cw : 0 < waI σ := by
      have : ¬ (σ.i 56).toInt ≤ (0 : Int32).toInt := fun q => cw (Int32.le_iff_toInt_le.mpr q)
      rw [z_t0] at this
      show 0 < (σ.i 56).toInt
      omega
    have ew1 : (σ.i 56 - 1).toInt = waI σ - 1 := by
      have hh : (σ.i 56).toInt = waI σ := rfl
      rw [toInt_sub] <;> rw [e1] <;> omega
    have nw : (σ.i 56 - 1).toNatClampNeg = (waI σ - 1).toNat := by
      show (σ.i 56 - 1).toInt.toNat = _
      rw [ew1]
    rw [if_pos (show ib (σ.i 56 - 1) 40 from ⟨by omega, by omega⟩), nw]
    by_cases c58 : σ.a 58 (waI σ - 1).toNat ≤ σ.a 60 k
    · rw [if_pos c58]; exact mark x21
    rw [if_neg c58]
    obtain ⟨R, eR, hR⟩ := go (RS.setA σ 62 k (σ.a 57 (waI σ - 1).toNat)) rfl (fun j _ _ h3 => setA_nk h3)
    refine ⟨R, eR, hR.one (v := σ.a 57 (waI σ - 1).toNat) ex hk (by omega) rfl rfl (fun j _ _ h3 => setA_nk h3) (fun γ q => (congrFun (setA_nk (by decide)) γ).trans q) (fun γ q => (congrFun (setA_nk (by decide)) γ).trans q) (fun p hp' => setA_ne hp') setA_at c62 (Or.inr ⟨x21, cw, rfl, ?_⟩)⟩
    have : ¬ gv σ 58 (waI σ - 1).toNat ≤ gv σ 60 k := fun q => c58 (Int32.le_iff_toInt_le.mpr q)
    omega
theorem p_rs {N : Nat} (hN : 1000 ≤ N) {σ : RS} {x1 x2 : Int32} (hx2 : x2 = 0 ∨ x2 = 1) (hp : 0 ≤ peI σ ∧ peI σ ≤ 300) (hw : 0 ≤ waI σ ∧ waI σ ≤ 40) (hg : ∀ p : Nat, (p : Int) < peI σ → 0 ≤ gv σ 60 p ∧ gv σ 60 p < 460) : ∃ R, f_X12_resolve N σ x1 x2 = some R ∧ RSV x1 x2 0 σ R := by
  unfold f_X12_resolve
  exact p_rsl hx2 N σ 0 (by decide) hp.2 hw.1 hw.2 hg (by rw [z_t0]; decide) (by omega) (by rw [z_t0]; omega)
end
section
/-! reading: try: the rows of a catch -/
/-- the frame knows the last catch -/
def FC (u : RS) (t : Nat) (L : List Nat) : Prop := L = [] ∧ (u.a 72 t).toInt < 0 ∨ ∃ (M : List Nat) (j : Nat), L = M ++ [j] ∧ (u.a 72 t).toInt = (j : Int)
/-- rows NL laid since u -/
def CTL (t id : Nat) (CL NL : List Nat) (u σ : RS) : Prop := (LXI σ ∧ fr u ≤ fr σ ∧ σ.b = u.b) ∧ (∀ j : Nat, j < 10 ∨ 18 ≤ j → j ≠ 19 → j ≠ 33 → σ.i j = u.i j) ∧ (∀ k : Nat, k ≠ 30 → k ≠ 34 → k ≠ 37 → k ≠ 72 → σ.a k = u.a k) ∧ (∀ j : Nat, j ≠ id → σ.a 30 j = u.a 30 j) ∧ (∀ j : Nat, j ≠ t → σ.a 72 j = u.a 72 j) ∧ (∀ j : Nat, (j : Int) < caI u → σ.a 34 j = u.a 34 j) ∧ (∀ j : Nat, (j : Int) < caI u → j ∉ CL → σ.a 37 j = u.a 37 j) ∧ (caI u ≤ caI σ ∧ ∀ j : Nat, j ∈ NL ↔ caI u ≤ (j : Int) ∧ (j : Int) < caI σ) ∧ CACH σ (gv σ 30 id) (CL ++ NL) ∧ FC σ t (CL ++ NL)
/-- no fault so far -/
def CTG (u σ : RS) : Prop := σ.i 15 = 0 ∧ σ.i 19 = u.i 19 ∧ tkI u ≤ tkI σ ∧ tkI σ - tkI u ≤ fr σ - fr u ∧ 3 * (caI σ - caI u) ≤ fr σ - fr u + 1 ∧ 0 ≤ tkI σ ∧ tkI σ ≤ fr σ + 1
theorem CTL.lx {t id : Nat} {CL NL : List Nat} {u σ τ : RS} (h : CTL t id CL NL u σ) (x : LX σ τ) : CTL t id CL NL u τ := by
  obtain ⟨⟨a1, a2, a3⟩, b, c, d, e, f, g, ⟨h1, h2⟩, k, l⟩ := h
  have ec : caI τ = caI σ := x.tbl.ca
  have ef := x.2.2.2.2.2
  refine ⟨⟨x.2.2.2.1, by omega, x.2.1.trans a3⟩, fun j j1 j2 j3 => (x.2.2.1 j j1 j2).trans (b j j1 j2 j3), fun k' q1 q2 q3 q4 => by rw [x.1]; exact c k' q1 q2 q3 q4, fun j hj => by rw [x.1]; exact d j hj, fun j hj => by rw [x.1]; exact e j hj, fun j hj => by rw [x.1]; exact f j hj, fun j hj q => by rw [x.1]; exact g j hj q, ⟨by omega, fun j => by rw [ec]; exact h2 j⟩, ?_, ?_⟩
  · rw [x.tbl.g (by decide)]
    exact k.of (fun j _ => x.tbl.g (by decide) j)
  · unfold FC at l ⊢
    rw [x.1]; exact l
def ROWK (N : Nat) (K18 : RS → Int32 → Int32 → Int32 → Option (RS)) (σ : RS) (x1 x2 : Int32) : Option RS := if ib (σ.i 33) 400 then if ib x1 1000 then (if 0 ≤ (σ.a 72 ((x1 : Int32).toNatClampNeg)) then if ib (σ.a 72 ((x1 : Int32).toNatClampNeg)) 400 then (f_X12_next N (RS.setI (RS.setA (RS.setA (RS.setA (RS.setA σ 34 (((σ.i 33) : Int32).toNatClampNeg) (σ.i 14)) 37 (((σ.i 33) : Int32).toNatClampNeg) (-1)) 37 (((σ.a 72 ((x1 : Int32).toNatClampNeg)) : Int32).toNatClampNeg) (σ.i 33)) 72 ((x1 : Int32).toNatClampNeg) (σ.i 33)) 33 ((σ.i 33) + 1))).bind fun p41 => (if (p41.i 15) = 0 then (if (p41.i 10) = 124 then (f_X12_next N p41).bind fun p45 => K18 p45 x1 x2 1 else K18 p41 x1 x2 0) else K18 p41 x1 x2 0) else none else if ib (σ.a 66 ((x1 : Int32).toNatClampNeg)) 200 then (f_X12_next N (RS.setI (RS.setA (RS.setA (RS.setA (RS.setA σ 34 (((σ.i 33) : Int32).toNatClampNeg) (σ.i 14)) 37 (((σ.i 33) : Int32).toNatClampNeg) (-1)) 30 (((σ.a 66 ((x1 : Int32).toNatClampNeg)) : Int32).toNatClampNeg) (σ.i 33)) 72 ((x1 : Int32).toNatClampNeg) (σ.i 33)) 33 ((σ.i 33) + 1))).bind fun p48 => (if (p48.i 15) = 0 then (if (p48.i 10) = 124 then (f_X12_next N p48).bind fun p52 => K18 p52 x1 x2 1 else K18 p48 x1 x2 0) else K18 p48 x1 x2 0) else none) else none else none
theorem e_c82 {N : Nat} {K18 K : RS → Int32 → Int32 → Int32 → Option (RS)} {σ : RS} {x1 x2 x4 : Int32} : b_X12_catching_82 N K18 K σ x1 x2 x4 = (if x4 < 0 then ROWK N K18 σ x1 x2 else (if (σ.i 15) = 0 then if ib x4 400 then (f_X12_isUnder N σ (σ.i 14) (σ.a 34 ((x4 : Int32).toNatClampNeg))).bind fun p73 => (if p73.1 = 0 then K p73.2 x1 x2 (p73.2.a 37 ((x4 : Int32).toNatClampNeg)) else (f_X12_fail N p73.2 6 (p73.2.i 11)).bind fun p76 => K p76 x1 x2 (p76.a 37 ((x4 : Int32).toNatClampNeg))) else none else ROWK N K18 σ x1 x2)) := rfl
/-- one row more -/
theorem CTL.row {t id c : Nat} {CL NL : List Nat} {u σ Z : RS} (h : CTL t id CL NL u σ) (hc : (c : Int) = caI σ) (c4 : c < 400) (hCL : ∀ j ∈ CL, (j : Int) < caI u) (zi : ∀ j : Nat, j ≠ 33 → Z.i j = σ.i j) (z33 : caI Z = caI σ + 1) (zb : Z.b = σ.b) (za : ∀ k : Nat, k ≠ 30 → k ≠ 34 → k ≠ 37 → k ≠ 72 → Z.a k = σ.a k) (z30 : ∀ j : Nat, j ≠ id → Z.a 30 j = σ.a 30 j) (z72 : ∀ j : Nat, j ≠ t → Z.a 72 j = σ.a 72 j) (z72t : (Z.a 72 t).toInt = (c : Int)) (z34 : ∀ j : Nat, j ≠ c → Z.a 34 j = σ.a 34 j) (z37 : ∀ j : Nat, j ≠ c → j ∉ CL ++ NL → Z.a 37 j = σ.a 37 j) (zch : CACH Z (gv Z 30 id) (CL ++ NL ++ [c])) : CTL t id CL (NL ++ [c]) u Z := by
  obtain ⟨⟨a1, a2, a3⟩, b, c', d, e, f, g, ⟨h1, h2⟩, k, l⟩ := h
  have fZ : fr Z = fr σ := by unfold fr; rw [zi 11 (by decide)]
  refine ⟨⟨a1.of (zi 2 (by decide)) (zi 10 (by decide)) (zi 11 (by decide)) (zi 12 (by decide)) (zi 14 (by decide)) (by rw [zb]), by omega, zb.trans a3⟩, fun j j1 j2 j3 => (zi j j3).trans (b j j1 j2 j3), fun k' q1 q2 q3 q4 => (za k' q1 q2 q3 q4).trans (c' k' q1 q2 q3 q4), fun j hj => (z30 j hj).trans (d j hj), fun j hj => (z72 j hj).trans (e j hj), fun j hj => (z34 j (by omega)).trans (f j hj), fun j hj q => ?_, ⟨by omega, fun j => ?_⟩, ?_, ?_⟩
  · refine (z37 j (by omega) (fun y => ?_)).trans (g j hj q)
    rcases List.mem_append.mp y with y | y
    · exact q y
    · have := ((h2 j).mp y).1; omega
  · rw [List.mem_append]
    constructor
    · rintro (q | q)
      · have := (h2 j).mp q; omega
      · rcases List.mem_cons.mp q with q | q
        · omega
        · exact absurd q List.not_mem_nil
    · intro q
      by_cases y : j = c
      · right; rw [y]; exact List.mem_cons_self ..
      · left; exact (h2 j).mpr ⟨q.1, by omega⟩
  · rw [← List.append_assoc]; exact zch
  · right; exact ⟨CL ++ NL, c, by rw [List.append_assoc], z72t⟩
theorem CTG.row {u σ Z : RS} (h : CTG u σ) (zi : ∀ j : Nat, j ≠ 33 → Z.i j = σ.i j) : Z.i 15 = 0 ∧ Z.i 19 = u.i 19 ∧ tkI Z = tkI σ ∧ fr Z = fr σ := ⟨(zi 15 (by decide)).trans h.1, (zi 19 (by decide)).trans h.2.1, by unfold tkI; rw [zi 17 (by decide)], by unfold fr; rw [zi 11 (by decide)]⟩
/-- behind a row: the next tokens -/
theorem p_rown {N : Nat} (hN : 1000 ≤ N) {K18 : RS → Int32 → Int32 → Int32 → Option (RS)} {x1 x2 : Int32} {t id : Nat} {CL NL : List Nat} {u σ Z : RS} (hZ : CTL t id CL NL u Z) (zi : ∀ j : Nat, j ≠ 33 → Z.i j = σ.i j) (z33 : caI Z = caI σ + 1) : ∃ (p : RS) (x3 : Int32), ((f_X12_next N Z).bind fun p => (if (p.i 15) = 0 then (if (p.i 10) = 124 then (f_X12_next N p).bind fun p45 => K18 p45 x1 x2 1 else K18 p x1 x2 0) else K18 p x1 x2 0)) = K18 p x1 x2 x3 ∧ CTL t id CL NL u p ∧ (x3 = 0 ∨ x3 = 1) ∧ (¬ σ.i 15 = 0 → ¬ p.i 15 = 0) ∧ (CTG u σ → 3 * (caI σ - caI u) ≤ fr σ - fr u → σ.i 10 = 5 → CTG u p ∧ fr σ + 2 ≤ fr p ∧ (x3 = 1 → 3 * (caI p - caI u) ≤ fr p - fr u)) := by
  obtain ⟨p, ep, l1, l2, l3, l4⟩ := p_nx hN hZ.1.1
  rw [ep]
  have hp := hZ.lx l1
  have cp : caI p = caI Z := l1.tbl.ca
  have fZ : fr Z = fr σ := by unfold fr; rw [zi 11 (by decide)]
  have tZ : tkI Z = tkI σ := by unfold tkI; rw [zi 17 (by decide)]
  show ∃ (q : RS) (x3 : Int32), (if (p.i 15) = 0 then (if (p.i 10) = 124 then (f_X12_next N p).bind fun p45 => K18 p45 x1 x2 1 else K18 p x1 x2 0) else K18 p x1 x2 0) = K18 q x1 x2 x3 ∧ _
  have flt : ¬ σ.i 15 = 0 → ¬ p.i 15 = 0 := fun q y => q (by rw [← zi 15 (by decide)]; exact l1.2.2.2.2.1 y)
  have good : CTG u σ → 3 * (caI σ - caI u) ≤ fr σ - fr u → σ.i 10 = 5 → CTG u p ∧ fr σ + 2 ≤ fr p ∧ tkI p = tkI σ + 1 := fun h h3 h5 => by
    obtain ⟨g1, g2, g3, g4, g5, g6, g7⟩ := h
    obtain ⟨q1, q2⟩ := l4 ((zi 15 (by decide)).trans g1)
    have z10 : Z.i 10 = 5 := (zi 10 (by decide)).trans h5
    obtain ⟨n1, n2, n3⟩ := q2 (by rw [z10]; decide)
    have n3 := n3 (Or.inr z10)
    have hf := hZ.1.1.f0
    have tp : tkI p = tkI Z + 1 := tk_add n1 ⟨by omega, by omega⟩
    exact ⟨⟨q1, l2.trans ((zi 19 (by decide)).trans g2), by omega, by omega, by omega, by omega, by omega⟩, by omega, by omega⟩
  by_cases c15 : p.i 15 = 0
  case neg =>
    rw [if_neg c15]
    exact ⟨p, 0, rfl, hp, Or.inl rfl, fun _ => c15, fun a b c => absurd (good a b c).1.1 c15⟩
  rw [if_pos c15]
  by_cases c124 : p.i 10 = 124
  case neg =>
    rw [if_neg c124]
    exact ⟨p, 0, rfl, hp, Or.inl rfl, flt, fun a b c => ⟨(good a b c).1, (good a b c).2.1, fun q => absurd q (by decide)⟩⟩
  rw [if_pos c124]
  obtain ⟨q, eq, m1, m2, m3, m4⟩ := p_nx hN hp.1.1
  rw [eq]
  obtain ⟨q1, q2⟩ := m4 c15
  obtain ⟨n1, n2, n3⟩ := q2 (by rw [c124]; decide)
  refine ⟨q, 1, rfl, hp.lx m1, Or.inr rfl, fun a => absurd c15 (flt a), fun a b c => ?_⟩
  obtain ⟨⟨g1, g2, g3, g4, g5, g6, g7⟩, g8, g9⟩ := good a b c
  have cq : caI q = caI p := m1.tbl.ca
  have hf := hp.1.1.f0
  have tq : tkI q = tkI p + 1 := tk_add n1 ⟨by omega, by omega⟩
  exact ⟨⟨q1, m2.trans g2, by omega, by omega, by omega, by omega, by omega⟩, by omega, fun _ => by omega⟩
theorem p_rowk {N : Nat} (hN : 1000 ≤ N) {K18 : RS → Int32 → Int32 → Int32 → Option (RS)} {x1 x2 : Int32} {t id : Nat} {CL NL : List Nat} {u σ : RS} (h : CTL t id CL NL u σ) (ibx : ib x1 1000) (nx : x1.toNatClampNeg = t) (hid : (u.a 66 t).toInt = (id : Int)) (i2 : id < 200) (h0 : 0 ≤ caI u) (h4 : caI σ < 400) (hCL : ∀ j ∈ CL, (j : Int) < caI u) : ∃ (p : RS) (x3 : Int32) (NL' : List Nat), ROWK N K18 σ x1 x2 = K18 p x1 x2 x3 ∧ CTL t id CL NL' u p ∧ NL' ≠ [] ∧ (x3 = 0 ∨ x3 = 1) ∧ (¬ σ.i 15 = 0 → ¬ p.i 15 = 0) ∧ (CTG u σ → 3 * (caI σ - caI u) ≤ fr σ - fr u → σ.i 10 = 5 → CTG u p ∧ fr σ + 2 ≤ fr p ∧ (x3 = 1 → 3 * (caI p - caI u) ≤ fr p - fr u)) := by
  obtain ⟨c, hc⟩ : ∃ c : Nat, c = (caI σ).toNat := ⟨_, rfl⟩
  have hcu := h.2.2.2.2.2.2.2.1.1
  have ec : (c : Int) = caI σ := by rw [hc]; exact Int.toNat_of_nonneg (by omega)
  have n33 : (σ.i 33).toNatClampNeg = c := hc.symm
  have i33 : ib (σ.i 33) 400 := ⟨by show 0 ≤ caI σ; omega, h4⟩
  have e1 : (1 : Int32).toInt = 1 := by decide
  have m1 : (-1 : Int32).toInt = -1 := by decide
  have h33 : (σ.i 33).toInt = caI σ := rfl
  have x33 : (σ.i 33 + 1).toInt = caI σ + 1 := by rw [toInt_add] <;> rw [e1] <;> omega
  have s66 : (σ.a 66 t).toInt = (id : Int) := by rw [h.2.2.1 66 (by decide) (by decide) (by decide) (by decide)]; exact hid
  have hNL := h.2.2.2.2.2.2.2.1.2
  have mem : ∀ j ∈ CL ++ NL, (j : Int) < caI σ := fun j hj => by
    rcases List.mem_append.mp hj with q | q
    · have := hCL j q; omega
    · exact ((hNL j).mp q).2
  have hch := h.2.2.2.2.2.2.2.2.1
  obtain ⟨A, hA⟩ : ∃ A, A = (RS.setA (RS.setA σ 34 c (σ.i 14)) 37 c (-1)) := ⟨_, rfl⟩
  have iA : A.i = σ.i := by rw [hA]; rfl
  have bA : A.b = σ.b := by rw [hA]; rfl
  have aA : ∀ k : Nat, k ≠ 34 → k ≠ 37 → A.a k = σ.a k := fun k p q => by rw [hA, setA_nk q, setA_nk p]
  have A34 : ∀ j : Nat, j ≠ c → A.a 34 j = σ.a 34 j := fun j hj => by rw [hA, setA_nk (by decide), setA_ne hj]
  have A37 : ∀ j : Nat, j ≠ c → A.a 37 j = σ.a 37 j := fun j hj => by rw [hA, setA_ne hj, setA_nk (by decide)]
  have A37c : A.a 37 c = -1 := by rw [hA]; exact setA_at
  unfold ROWK
  rw [if_pos i33, if_pos ibx, nx, n33, ← hA]
  clear hA
  rcases h.2.2.2.2.2.2.2.2.2 with ⟨q1, q2⟩ | ⟨M, j, q1, q2⟩
  · have cn : ¬ (0 : Int32) ≤ σ.a 72 t := fun z => by
      have := Int32.le_iff_toInt_le.mp z
      rw [z_t0] at this
      omega
    rw [if_neg cn, if_pos (show ib (σ.a 66 t) 200 from ⟨by omega, by omega⟩), k_nat s66]
    obtain ⟨Z, hZ⟩ : ∃ Z, Z = RS.setI (RS.setA (RS.setA A 30 id (σ.i 33)) 72 t (σ.i 33)) 33 ((σ.i 33) + 1) := ⟨_, rfl⟩
    rw [← hZ]
    have zi : ∀ j : Nat, j ≠ 33 → Z.i j = σ.i j := fun j hj => by rw [hZ]; exact (if_neg hj).trans (by show A.i j = _; rw [iA])
    have z33 : caI Z = caI σ + 1 := by rw [hZ]; exact x33
    have zb : Z.b = σ.b := by rw [hZ]; exact bA
    have za : ∀ k : Nat, k ≠ 30 → k ≠ 72 → Z.a k = A.a k := fun k p q => by rw [hZ, setI_a, setA_nk q, setA_nk p]
    have z30 : ∀ j : Nat, j ≠ id → Z.a 30 j = σ.a 30 j := fun j hj => by rw [hZ, setI_a, setA_nk (by decide), setA_ne hj, aA 30 (by decide) (by decide)]
    have z30i : Z.a 30 id = σ.i 33 := by rw [hZ, setI_a, setA_nk (by decide)]; exact setA_at
    have z72 : ∀ j : Nat, j ≠ t → Z.a 72 j = σ.a 72 j := fun j hj => by rw [hZ, setI_a, setA_ne hj, setA_nk (by decide), aA 72 (by decide) (by decide)]
    have z72t : Z.a 72 t = σ.i 33 := by rw [hZ, setI_a]; exact setA_at
    clear hZ
    have z37c : gv Z 37 c = -1 := by unfold gv; rw [za 37 (by decide) (by decide), A37c]; exact m1
    have hZc : CTL t id CL (NL ++ [c]) u Z := h.row ec (by omega) hCL zi z33 zb (fun k p1 p2 p3 p4 => (za k p1 p4).trans (aA k p2 p3)) z30 z72 (by rw [z72t]; omega) (fun j hj => by rw [za 34 (by decide) (by decide)]; exact A34 j hj) (fun j hj _ => by rw [za 37 (by decide) (by decide)]; exact A37 j hj) (by
      rw [q1]
      show CACH Z (gv Z 30 id) (c :: [])
      refine ⟨?_, fun i hi => absurd hi List.not_mem_nil, ?_⟩
      · unfold gv; rw [z30i]; omega
      · show gv Z 37 c < 0
        rw [z37c]; decide)
    obtain ⟨p, x3, r1, r2, r3, r4, r5⟩ := p_rown hN (K18 := K18) (x1 := x1) (x2 := x2) hZc zi z33
    exact ⟨p, x3, NL ++ [c], r1, r2, by simp, r3, r4, r5⟩
  · have jm := mem j (by rw [q1]; exact List.mem_append_right _ (List.mem_cons_self ..))
    have cn : (0 : Int32) ≤ σ.a 72 t := Int32.le_iff_toInt_le.mpr (by rw [z_t0]; omega)
    rw [if_pos cn, if_pos (show ib (σ.a 72 t) 400 from ⟨by omega, by omega⟩), k_nat q2]
    obtain ⟨Z, hZ⟩ : ∃ Z, Z = RS.setI (RS.setA (RS.setA A 37 j (σ.i 33)) 72 t (σ.i 33)) 33 ((σ.i 33) + 1) := ⟨_, rfl⟩
    rw [← hZ]
    have zi : ∀ j : Nat, j ≠ 33 → Z.i j = σ.i j := fun j hj => by rw [hZ]; exact (if_neg hj).trans (by show A.i j = _; rw [iA])
    have z33 : caI Z = caI σ + 1 := by rw [hZ]; exact x33
    have zb : Z.b = σ.b := by rw [hZ]; exact bA
    have za : ∀ k : Nat, k ≠ 37 → k ≠ 72 → Z.a k = A.a k := fun k p q => by rw [hZ, setI_a, setA_nk q, setA_nk p]
    have z37 : ∀ i : Nat, i ≠ j → Z.a 37 i = A.a 37 i := fun i hi => by rw [hZ, setI_a, setA_nk (by decide), setA_ne hi]
    have z37j : Z.a 37 j = σ.i 33 := by rw [hZ, setI_a, setA_nk (by decide)]; exact setA_at
    have z72 : ∀ j : Nat, j ≠ t → Z.a 72 j = σ.a 72 j := fun j hj => by rw [hZ, setI_a, setA_ne hj, setA_nk (by decide), aA 72 (by decide) (by decide)]
    have z72t : Z.a 72 t = σ.i 33 := by rw [hZ, setI_a]; exact setA_at
    clear hZ
    have z37c : gv Z 37 c = -1 := by unfold gv; rw [z37 c (by omega), A37c]; exact m1
    have e30 : gv Z 30 id = gv σ 30 id := by unfold gv; rw [za 30 (by decide) (by decide), aA 30 (by decide) (by decide)]
    have inM : ∀ i ∈ M, i < j := by
      have nd : ∀ {M : List Nat} {x : Int}, CACH σ x (M ++ [j]) → ∀ i ∈ M, i < j := fun {M} => by
        induction M with
        | nil => intro x _ i hi; exact absurd hi List.not_mem_nil
        | cons m M ih =>
          intro x h i hi
          have h : CACH σ x (m :: (M ++ [j])) := h
          rcases List.mem_cons.mp hi with q | q
          · rw [q]; exact h.2.1 j (List.mem_append_right _ (List.mem_cons_self ..))
          · exact ih h.2.2 i q
      rw [q1] at hch
      exact nd hch
    have hZc : CTL t id CL (NL ++ [c]) u Z := h.row ec (by omega) hCL zi z33 zb (fun k p1 p2 p3 p4 => (za k p3 p4).trans (aA k p2 p3)) (fun i _ => by rw [za 30 (by decide) (by decide), aA 30 (by decide) (by decide)]) z72 (by rw [z72t]; omega) (fun i hi => by rw [za 34 (by decide) (by decide)]; exact A34 i hi) (fun i hi hn => by
      have : i ≠ j := fun q => hn (by rw [q1, q]; exact List.mem_append_right _ (List.mem_cons_self ..))
      rw [z37 i this]; exact A37 i hi) (by
      rw [e30, q1]
      rw [q1] at hch
      refine CACH.snoc hch (fun i hi => ?_) ?_ (by rw [z37c]; decide) (fun i hi => ?_) (by omega)
      · have := inM i hi
        have := mem i (by rw [q1]; exact List.mem_append_left _ hi)
        unfold gv; rw [z37 i (by omega), A37 i (by omega)]
      · unfold gv; rw [z37j]; omega
      · have := mem i (by rw [q1]; exact List.mem_append_left _ hi)
        omega)
    obtain ⟨p, x3, r1, r2, r3, r4, r5⟩ := p_rown hN (K18 := K18) (x1 := x1) (x2 := x2) hZc zi z33
    exact ⟨p, x3, NL ++ [c], r1, r2, by simp, r3, r4, r5⟩
end
section
/-! reading: try: a catch's head -/
theorem p_c82 {N : Nat} (hN : 1000 ≤ N) {K18 : RS → Int32 → Int32 → Int32 → Option (RS)} {x1 x2 : Int32} : ∀ (n : Nat) (L : List Nat) (σ : RS) (x4 : Int32), LXI σ → RB σ → CACH σ x4.toInt L → (∀ j ∈ L, j < 400) → L.length < n → (σ.i 15 = 0 → σ.i 14 < σ.i 3) → ∃ σ', f_X12_catching_82 N K18 n σ x1 x2 x4 = ROWK N K18 σ' x1 x2 ∧ LX σ σ' ∧ (σ' = σ ∨ ¬ σ'.i 15 = 0)
  | 0, L, _, _, _, _, _, _, h, _ => by omega
  | n + 1, [], σ, x4, hl, hb, hch, _, _, _ => by
    show ∃ σ', b_X12_catching_82 N K18 (f_X12_catching_82 N K18 n) σ x1 x2 x4 = _ ∧ _
    rw [e_c82]
    have hch : x4.toInt < 0 := hch
    rw [if_pos (Int32.lt_iff_toInt_lt.mpr (by rw [z_t0]; exact hch))]
    exact ⟨σ, rfl, LX.rf hl, Or.inl rfl⟩
  | n + 1, j :: L, σ, x4, hl, hb, hch, h4, hn, h14 => by
    show ∃ σ', b_X12_catching_82 N K18 (f_X12_catching_82 N K18 n) σ x1 x2 x4 = _ ∧ _
    rw [e_c82]
    obtain ⟨q1, q2, q3⟩ := hch
    have j4 := h4 j (List.mem_cons_self ..)
    rw [if_neg (fun z => by have := Int32.lt_iff_toInt_lt.mp z; rw [z_t0] at this; omega)]
    by_cases c15 : σ.i 15 = 0
    case neg =>
      rw [if_neg c15]
      exact ⟨σ, rfl, LX.rf hl, Or.inl rfl⟩
    rw [if_pos c15, if_pos (show ib x4 400 from ⟨by omega, by omega⟩), k_nat q1]
    have hn' : L.length < n := Nat.lt_of_succ_lt_succ hn
    obtain ⟨⟨p1, p2⟩, ep, e2⟩ := p_isUnder (N := N) (by omega) σ (σ.i 14) (σ.a 34 j) hb (h14 c15)
    have e2 : p2 = σ := e2
    subst e2
    rw [ep]
    show ∃ σ', (if p1 = 0 then f_X12_catching_82 N K18 n p2 x1 x2 (p2.a 37 j) else (f_X12_fail N p2 6 (p2.i 11)).bind fun p76 => f_X12_catching_82 N K18 n p76 x1 x2 (p76.a 37 j)) = _ ∧ _
    by_cases c0 : p1 = 0
    · rw [if_pos c0]
      exact p_c82 hN n L p2 (p2.a 37 j) hl hb q3 (fun i hi => h4 i (List.mem_cons_of_mem _ hi)) hn' h14
    · rw [if_neg c0]
      obtain ⟨S, eS, r1, r2, r3⟩ := p_fl (N := N) hl 6 (p2.i 11) (by decide)
      rw [eS]
      obtain ⟨σ', es, k1, k2⟩ := p_c82 hN (K18 := K18) (x1 := x1) (x2 := x2) n L S (S.a 37 j) r1.2.2.2.1 (RB.of (r1.2.2.1 2 (by omega) (by omega)) (r1.2.2.1 3 (by omega) (by omega)) (by rw [r1.1]) (by rw [r1.1]) (by rw [r1.1]) hb) (by
        have e : gv S 37 j = gv p2 37 j := r1.tbl.g (by decide) j
        show CACH S (gv S 37 j) L
        rw [e]
        exact q3.of (fun i _ => r1.tbl.g (by decide) i)) (fun i hi => h4 i (List.mem_cons_of_mem _ hi)) hn' (fun q => absurd q r2)
      refine ⟨σ', es, r1.tr k1, Or.inr (fun q => ?_)⟩
      exact r2 (k1.2.2.2.2.1 q)
theorem p_c18f {N : Nat} {x1 x2 x3 : Int32} {σ : RS} {n : Nat} (hn : 1 ≤ n) (h : ¬ σ.i 15 = 0) : f_X12_catching_18 N n σ x1 x2 x3 = f_X12_catching_256 N σ x2 := by
  obtain ⟨m, rfl⟩ : ∃ m, n = m + 1 := ⟨n - 1, by omega⟩
  show b_X12_catching_18 N (f_X12_catching_18 N m) σ x1 x2 x3 = _
  unfold b_X12_catching_18
  by_cases c : x3 = 0
  · rw [if_pos c]
  · rw [if_neg c, if_neg h]
theorem p_c18 {N : Nat} (hN : 1000 ≤ N) {x1 x2 : Int32} {t id : Nat} {CL : List Nat} {u : RS} (hb : RB u) (ibx : ib x1 1000) (nx : x1.toNatClampNeg = t) (hid : (u.a 66 t).toInt = (id : Int)) (i2 : id < 200) (h0 : 0 ≤ caI u) (h3u : 3 * caI u ≤ fr u) (hCL : ∀ j ∈ CL, (j : Int) < caI u) : ∀ (n : Nat) (σ : RS) (x3 : Int32) (NL : List Nat), CTL t id CL NL u σ → (x3 = 0 ∨ x3 = 1) → (σ.i 15 = 0 → CTG u σ ∧ (x3 = 1 → 3 * (caI σ - caI u) ≤ fr σ - fr u)) → (x3 = 0 → NL ≠ []) → 902 - fr σ ≤ n → ∃ (σ' : RS) (NL' : List Nat), f_X12_catching_18 N n σ x1 x2 x3 = f_X12_catching_256 N σ' x2 ∧ CTL t id CL NL' u σ' ∧ (¬ σ'.i 15 = 0 ∨ CTG u σ' ∧ NL' ≠ [])
  | 0, σ, x3, NL, h, _, _, _, hn => by
    have := h.1.1.f0
    omega
  | n + 1, σ, x3, NL, h, hx, hg, hne, hn => by
    have hf := h.1.1.f0
    have push : ((n + 1 : Nat) : Int) = (n : Int) + 1 := by omega
    rw [push] at hn
    have n1 : 1 ≤ n := by omega
    by_cases c15 : σ.i 15 = 0
    case neg => exact ⟨σ, NL, p_c18f (by omega) c15, h, Or.inl c15⟩
    obtain ⟨g, g3⟩ := hg c15
    show ∃ (σ' : RS) (NL' : List Nat), b_X12_catching_18 N (f_X12_catching_18 N n) σ x1 x2 x3 = _ ∧ _
    unfold b_X12_catching_18
    by_cases c3 : x3 = 0
    · rw [if_pos c3]
      exact ⟨σ, NL, rfl, h, Or.inr ⟨g, hne c3⟩⟩
    have x31 : x3 = 1 := hx.resolve_left c3
    rw [if_neg c3, if_pos c15]
    have g5 := g.2.2.2.2.1
    have hbs : RB σ := RB.of (h.2.1 2 (by omega) (by omega) (by omega)) (h.2.1 3 (by omega) (by omega) (by omega)) (h.2.2.1 4 (by decide) (by decide) (by decide) (by decide)) (h.2.2.1 6 (by decide) (by decide) (by decide) (by decide)) (h.2.2.1 7 (by decide) (by decide) (by decide) (by decide)) hb
    have fu := h.1.2.1
    have s66 : ∀ τ : RS, LX σ τ → (τ.a 66 t).toInt = (id : Int) := fun τ x => by rw [x.1, h.2.2.1 66 (by decide) (by decide) (by decide) (by decide)]; exact hid
    have walk : ∀ τ : RS, LX σ τ → (τ.i 15 = 0 → τ = σ ∧ σ.i 10 = 5 ∧ σ.i 14 < σ.i 3) → ∃ (σ' : RS) (NL' : List Nat), (if ib x1 1000 then if ib (τ.a 66 ((x1 : Int32).toNatClampNeg)) 200 then f_X12_catching_82 N (f_X12_catching_18 N n) N τ x1 x2 (τ.a 30 (((τ.a 66 ((x1 : Int32).toNatClampNeg)) : Int32).toNatClampNeg)) else none else none : Option RS) = f_X12_catching_256 N σ' x2 ∧ CTL t id CL NL' u σ' ∧ (¬ σ'.i 15 = 0 ∨ CTG u σ' ∧ NL' ≠ []) := fun τ x hτ => by
      have cτ := h.lx x
      have caτ : caI τ = caI σ := x.tbl.ca
      have h66 := s66 τ x
      rw [if_pos ibx, nx, if_pos (show ib (τ.a 66 t) 200 from ⟨by omega, by omega⟩), k_nat h66]
      have mem : ∀ j ∈ CL ++ NL, j < 400 := fun j hj => by
        rcases List.mem_append.mp hj with q | q
        · have := hCL j q; omega
        · have := ((h.2.2.2.2.2.2.2.1.2 j).mp q).2; omega
      have hch := cτ.2.2.2.2.2.2.2.2.1
      have len : (CL ++ NL).length ≤ 400 := nd_len 400 _ hch.nd mem
      obtain ⟨σ', es, k1, k2⟩ := p_c82 hN (K18 := f_X12_catching_18 N n) (x1 := x1) (x2 := x2) N (CL ++ NL) τ (τ.a 30 id) cτ.1.1 (RB.of (x.2.2.1 2 (by omega) (by omega)) (x.2.2.1 3 (by omega) (by omega)) (by rw [x.1]) (by rw [x.1]) (by rw [x.1]) hbs) hch mem (by omega) (fun q => by
        obtain ⟨e, -, e2⟩ := hτ q
        rw [e]; exact e2)
      rw [es]
      have cσ' := cτ.lx k1
      have caσ : caI σ' = caI τ := k1.tbl.ca
      obtain ⟨p, x3', NL', r1, r2, r2', r3, r4, r5⟩ := p_rowk hN (K18 := f_X12_catching_18 N n) (x1 := x1) (x2 := x2) cσ' ibx nx hid i2 h0 (by omega) hCL
      rw [r1]
      by_cases cf : σ'.i 15 = 0
      · have t0 : τ.i 15 = 0 := k1.2.2.2.2.1 cf
        obtain ⟨e, e5, -⟩ := hτ t0
        have e' : σ' = τ := k2.resolve_right (fun q => q cf)
        rw [e', e] at r4 r5
        obtain ⟨w1, w2, w3⟩ := r5 g (g3 x31) e5
        exact p_c18 hN hb ibx nx hid i2 h0 h3u hCL n p x3' NL' r2 r3 (fun _ => ⟨w1, w3⟩) (fun _ => r2') (by omega)
      · have pf := r4 cf
        exact ⟨p, NL', p_c18f n1 pf, r2, Or.inl pf⟩
    by_cases c5 : σ.i 10 = 5
    · rw [if_pos c5, can1 c15 (by rw [c5]; decide)]
      show ∃ (σ' : RS) (NL' : List Nat), (if (1 : Int32) = 0 then f_X12_catching_18 N n σ x1 x2 x3 else (if (σ.i 14) < (σ.i 3) then if ib x1 1000 then if ib (σ.a 66 ((x1 : Int32).toNatClampNeg)) 200 then f_X12_catching_82 N (f_X12_catching_18 N n) N σ x1 x2 (σ.a 30 (((σ.a 66 ((x1 : Int32).toNatClampNeg)) : Int32).toNatClampNeg)) else none else none else (f_X12_fail N σ 3 (σ.i 11)).bind fun p88 => if ib x1 1000 then if ib (p88.a 66 ((x1 : Int32).toNatClampNeg)) 200 then f_X12_catching_82 N (f_X12_catching_18 N n) N p88 x1 x2 (p88.a 30 (((p88.a 66 ((x1 : Int32).toNatClampNeg)) : Int32).toNatClampNeg)) else none else none)) = _ ∧ _
      rw [if_neg (by decide)]
      by_cases c14 : σ.i 14 < σ.i 3
      · rw [if_pos c14]
        exact walk σ (LX.rf h.1.1) (fun _ => ⟨rfl, c5, c14⟩)
      · rw [if_neg c14]
        obtain ⟨S, eS, r1, r2, r3⟩ := p_fl (N := N) h.1.1 3 (σ.i 11) (by decide)
        rw [eS]
        exact walk S r1 (fun q => absurd q r2)
    · rw [if_neg c5]
      obtain ⟨R, eR, r1, r2⟩ := can0 (N := N) h.1.1 c15
      rw [eR]
      show ∃ (σ' : RS) (NL' : List Nat), (if (0 : Int32) = 0 then f_X12_catching_18 N n R x1 x2 x3 else (if (R.i 14) < (R.i 3) then if ib x1 1000 then if ib (R.a 66 ((x1 : Int32).toNatClampNeg)) 200 then f_X12_catching_82 N (f_X12_catching_18 N n) N R x1 x2 (R.a 30 (((R.a 66 ((x1 : Int32).toNatClampNeg)) : Int32).toNatClampNeg)) else none else none else (f_X12_fail N R 3 (R.i 11)).bind fun p78 => if ib x1 1000 then if ib (p78.a 66 ((x1 : Int32).toNatClampNeg)) 200 then f_X12_catching_82 N (f_X12_catching_18 N n) N p78 x1 x2 (p78.a 30 (((p78.a 66 ((x1 : Int32).toNatClampNeg)) : Int32).toNatClampNeg)) else none else none)) = _ ∧ _
      rw [if_pos rfl]
      exact ⟨R, NL, p_c18f n1 r2, h.lx r1, Or.inl r2⟩
/-- where the catch begins, which slot its name has -/
theorem p_323 {N : Nat} {x4 : Int32} {t : Nat} (h9 : t < 998) : ∀ (n : Nat) (σ : RS) (x5 : Int32), 0 ≤ x5.toInt → caI σ ≤ 400 → x5.toInt ≤ caI σ → caI σ - x5.toInt < n → tpI σ = t → ∃ U, f_X12_catching_323 N n σ x4 x5 = some (TH U t 3 3) ∧ U.i = σ.i ∧ U.b = σ.b ∧ (∀ k : Nat, k ≠ 35 → k ≠ 36 → U.a k = σ.a k) ∧ (∀ j : Nat, (j : Int) < x5.toInt ∨ caI σ ≤ (j : Int) → U.a 35 j = σ.a 35 j ∧ U.a 36 j = σ.a 36 j) ∧ (∀ j : Nat, x5.toInt ≤ j → (j : Int) < caI σ → U.a 35 j = σ.i 20 ∧ U.a 36 j = x4)
  | 0, σ, x5, h0, h4, hle, hn, ht => by omega
  | n + 1, σ, x5, h0, h4, hle, hn, ht => by
    show ∃ U, b_X12_catching_323 N (f_X12_catching_323 N n) σ x4 x5 = _ ∧ _
    unfold b_X12_catching_323
    by_cases c : σ.i 33 ≤ x5
    · rw [if_pos c, p_th 3 3 ht (by omega)]
      have c := Int32.le_iff_toInt_le.mp c
      have c : caI σ ≤ x5.toInt := c
      exact ⟨σ, rfl, rfl, rfl, fun _ _ _ => rfl, fun _ _ => ⟨rfl, rfl⟩, fun j j1 j2 => by omega⟩
    rw [if_neg c]
    have c : ¬ caI σ ≤ x5.toInt := fun q => c (Int32.le_iff_toInt_le.mpr q)
    obtain ⟨k, hk⟩ : ∃ k : Nat, x5.toInt = (k : Int) := ⟨x5.toInt.toNat, (Int.toNat_of_nonneg h0).symm⟩
    have e1 : (1 : Int32).toInt = 1 := by decide
    have ex : (x5 + 1).toInt = x5.toInt + 1 := by rw [toInt_add] <;> rw [e1] <;> omega
    rw [if_pos (show ib x5 400 from ⟨h0, by omega⟩), k_nat hk]
    obtain ⟨Z, hZ⟩ : ∃ Z, Z = RS.setA (RS.setA σ 35 k (σ.i 20)) 36 k x4 := ⟨_, rfl⟩
    have iZ : Z.i = σ.i := by rw [hZ]; rfl
    have bZ : Z.b = σ.b := by rw [hZ]; rfl
    have aZ : ∀ j : Nat, j ≠ 35 → j ≠ 36 → Z.a j = σ.a j := fun j p q => by rw [hZ, setA_nk q, setA_nk p]
    have z35 : ∀ j : Nat, j ≠ k → Z.a 35 j = σ.a 35 j ∧ Z.a 36 j = σ.a 36 j := fun j hj => ⟨by rw [hZ, setA_nk (by decide), setA_ne hj], by rw [hZ, setA_ne hj, setA_nk (by decide)]⟩
    have z35k : Z.a 35 k = σ.i 20 ∧ Z.a 36 k = x4 := ⟨by rw [hZ, setA_nk (by decide)]; exact setA_at, by rw [hZ]; exact setA_at⟩
    rw [← hZ]
    clear hZ
    have ec : caI Z = caI σ := by unfold caI; rw [iZ]
    obtain ⟨U, eU, u1, u2, u3, u4, u5⟩ := p_323 (N := N) (x4 := x4) h9 n Z (x5 + 1) (by omega) (by omega) (by omega) (by omega) (by unfold tpI at *; rw [iZ]; exact ht)
    refine ⟨U, eU, u1.trans iZ, u2.trans bZ, fun j p q => (u3 j p q).trans (aZ j p q), fun j hj => ?_, fun j j1 j2 => ?_⟩
    · obtain ⟨w1, w2⟩ := u4 j (by omega)
      obtain ⟨w3, w4⟩ := z35 j (by omega)
      exact ⟨w1.trans w3, w2.trans w4⟩
    · by_cases q : j = k
      · subst q
        obtain ⟨w1, w2⟩ := u4 j (by omega)
        exact ⟨w1.trans z35k.1, w2.trans z35k.2⟩
      · obtain ⟨w1, w2⟩ := u5 j (by omega) (by omega)
        exact ⟨w1.trans (by rw [iZ]), w2⟩
end
section
/-! reading: try: the tables behind a catch's head -/
/-- the caught name -/
def SEN (u U : RS) : Prop := seI U = seI u + 1 ∧ (∀ j : Nat, j ≠ (seI u).toNat → U.a 40 j = u.a 40 j ∧ U.a 41 j = u.a 41 j) ∧ gv U 40 (seI u).toNat = slI u ∧ U.a 41 (seI u).toNat = 1
theorem TAB.cat {id : Nat} {CL NL : List Nat} {u U : RS} (ht : TAB u) (h : CATR id CL NL u U) (hs : SEN u U) (hch : CACH U (gv U 30 id) (CL ++ NL)) (hne : NL ≠ []) (hCL : ∀ j ∈ CL, (j : Int) < caI u) (s0 : 0 ≤ seI u) (l0 : 0 ≤ slI u) (c0 : 0 ≤ caI u) (hr : U.i 75 = u.i 75) (h52 : U.i 52 = u.i 52) : TAB U := by
  obtain ⟨⟨a0, b1, b2, b3, b4⟩, a1, a2, a3, a4, a5, a6, a7, a8, a9⟩ := ht
  have ea : ∀ k : Nat, k < 64 → k ≠ 30 → ¬ (34 ≤ k ∧ k ≤ 37) → k ≠ 40 → k ≠ 41 → U.a k = u.a k := h.2.1
  have eg : ∀ (k i : Nat), k < 64 → k ≠ 30 → ¬ (34 ≤ k ∧ k ≤ 37) → k ≠ 40 → k ≠ 41 → gv U k i = gv u k i := fun k i p1 p2 p3 p4 p5 => gv_of (ea k p1 p2 p3 p4 p5) i
  have e2 : enI U = enI u := by unfold enI; rw [h.1 24 (by omega) (by omega) (by omega) (by omega) (by omega)]
  have e3 : trI U = trI u := by unfold trI; rw [h.1 29 (by omega) (by omega) (by omega) (by omega) (by omega)]
  have e4 := h.2.2.2.2.2.1
  have e6 := h.2.2.2.2.2.2.2.2
  have e7 := h.go
  have e8 : deI U = deI u := by unfold deI; rw [h52]
  have e9 : waI U = waI u := by unfold waI; rw [h.1 56 (by omega) (by omega) (by omega) (by omega) (by omega)]
  have e10 : peI U = peI u := by unfold peI; rw [h.1 59 (by omega) (by omega) (by omega) (by omega) (by omega)]
  have esn : ((seI u).toNat : Int) = seI u := Int.toNat_of_nonneg s0
  obtain ⟨hs1, hs2, hs3, hs4⟩ := hs
  have mem : ∀ j ∈ CL ++ NL, (j : Int) < caI U := fun j hj => by
    rcases List.mem_append.mp hj with q | q
    · have := hCL j q; omega
    · exact (h.2.2.2.2.2.2.1 j q).2
  have o36 : ∀ j : Nat, (j : Int) < caI u → gv U 36 j = gv u 36 j := fun j hj => by unfold gv; rw [h.2.2.2.1 36 j (by omega) (by omega) hj]
  refine ⟨⟨fun γ b hγ => ?_, DJ.of a0 b1 (by omega) (fun γ b M _ h1 _ => by rw [h.hd]; exact h.isch h1), fun p hp => ?_, fun w w' q1 q2 => ?_, fun p w q1 q2 q3 => ?_⟩, fun j hj => ?_, fun j hj => ?_, fun j hj => ?_, fun x hx => ?_, fun j hj => ?_, fun g hg => ?_, fun k hk => ?_, fun k hk => ?_, ?_⟩
  · obtain ⟨M, l1, l2⟩ := a0 γ b (by omega)
    exact ⟨M, by rw [h.hd]; exact h.isch l1, fun x hx => by have := l2 x hx; rw [h.cd]; exact this⟩
  · rw [e10] at hp; rw [e3, eg 62 p (by omega) (by omega) (by omega) (by omega) (by omega)]; exact b2 p hp
  · rw [e9] at q2; rw [eg 57 _ (by omega) (by omega) (by omega) (by omega) (by omega), eg 57 _ (by omega) (by omega) (by omega) (by omega) (by omega)]; exact b3 w w' q1 q2
  · rw [e10] at q1; rw [e9] at q2; rw [eg 62 _ (by omega) (by omega) (by omega) (by omega) (by omega), eg 57 _ (by omega) (by omega) (by omega) (by omega) (by omega)] at q3; rw [eg 60 _ (by omega) (by omega) (by omega) (by omega) (by omega), eg 58 _ (by omega) (by omega) (by omega) (by omega) (by omega)]; exact b4 p w q1 q2 q3
  · rw [e2] at hj ⊢; rw [eg 27 _ (by omega) (by omega) (by omega) (by omega) (by omega)]; exact a1 j hj
  · by_cases c : j ∈ CL ++ NL
    · rcases hch.nxt c with r | ⟨i, i1, i2, i3⟩
      · exact Or.inl r
      · have := mem i i1
        right; omega
    · have jl : (j : Int) < caI u := by
        by_cases q : (j : Int) < caI u
        · exact q
        · exact absurd (List.mem_append_right _ (h.2.2.2.2.2.2.2.1 j (by omega) hj).1) c
      have e37 : gv U 37 j = gv u 37 j := by unfold gv; rw [h.2.2.2.2.1 j jl (fun q => c (List.mem_append_left _ q))]
      rw [e37]
      have := a2 j jl
      omega
  · rw [e3] at hj
    by_cases c : j = id
    · rw [c]
      cases hL : CL ++ NL with
      | nil => rw [hL] at hch; have q : gv U 30 id < 0 := hch; omega
      | cons i L' =>
        rw [hL] at hch
        have q := hch.1
        have := mem i (by rw [hL]; exact List.mem_cons_self ..)
        omega
    · have e30 : gv U 30 j = gv u 30 j := by unfold gv; rw [h.2.2.1 j c]
      rw [e30]
      have := a3 j hj
      omega
  · by_cases c : x = (seI u).toNat
    · rw [c, hs3, e6, hs4]
      refine ⟨l0, by omega, ?_⟩
      constructor
      · intro _; decide
      · intro _
        obtain ⟨j, hj⟩ : ∃ j, j ∈ NL := by
          cases NL with
          | nil => exact absurd rfl hne
          | cons a _ => exact ⟨a, List.mem_cons_self ..⟩
        obtain ⟨j1, j2⟩ := h.2.2.2.2.2.2.1 j hj
        exact ⟨j, j2, (h.2.2.2.2.2.2.2.1 j j1 j2).2.2⟩
    · obtain ⟨y1, y2⟩ := hs2 x c
      have xl : (x : Int) < seI u := by omega
      have e40 : gv U 40 x = gv u 40 x := by unfold gv; rw [y1]
      obtain ⟨z1, z2, z3⟩ := a4 x xl
      rw [e40, y2, e6]
      refine ⟨z1, by omega, ?_⟩
      rw [← z3]
      constructor
      · rintro ⟨j, j1, j2⟩
        by_cases q : (j : Int) < caI u
        · exact ⟨j, q, by rw [← o36 j q]; exact j2⟩
        · have := (h.2.2.2.2.2.2.2.1 j (by omega) j1).2.2; omega
      · rintro ⟨j, j1, j2⟩
        exact ⟨j, by omega, by rw [o36 j j1]; exact j2⟩
  · rw [e6]
    by_cases q : (j : Int) < caI u
    · rw [o36 j q]; have := a5 j q; omega
    · have := (h.2.2.2.2.2.2.2.1 j (by omega) hj).2.2; omega
  · rw [e7] at hg; rw [e8, eg 47 _ (by omega) (by omega) (by omega) (by omega) (by omega)]; exact a6 g hg
  · rw [e10] at hk; rw [eg 60 _ (by omega) (by omega) (by omega) (by omega) (by omega), ea 61 (by omega) (by omega) (by omega) (by omega) (by omega)]; exact a7 k hk
  · rw [e9] at hk; rw [e3, e7, eg 57 _ (by omega) (by omega) (by omega) (by omega) (by omega), eg 58 _ (by omega) (by omega) (by omega) (by omega) (by omega)]; exact a8 k hk
  · rw [hr]; exact a9
theorem KP.cat {t id : Nat} {CL NL : List Nat} {s u U : RS} (hk : KP t s u) (h : CATR id CL NL u U) (hs : SEN u U) (hid : trI s ≤ (id : Int)) (hCL : ∀ j ∈ CL, caI s ≤ (j : Int)) (s0 : 0 ≤ seI u) (h1 : ∀ j : Nat, 76 ≤ j → U.i j = u.i j) (h18 : 0 ≤ u.i 18 → 0 ≤ U.i 18) (ha : ∀ k : Nat, 74 ≤ k → U.a k = u.a k) (hb : U.b 9 = u.b 9) (hf : ∀ k : Nat, 64 ≤ k → k ≤ 73 → bel k t u U) : KP t s U := by
  obtain ⟨⟨a1, a1'⟩, a2, a3, a4, a5, a6, a7, a8, a9, a10, a11⟩ := hk
  have ea : ∀ k : Nat, k < 64 → k ≠ 30 → ¬ (34 ≤ k ∧ k ≤ 37) → k ≠ 40 → k ≠ 41 → U.a k = u.a k := h.2.1
  have eb : ∀ (k : Nat) (n : Int), k < 64 → k ≠ 30 → ¬ (34 ≤ k ∧ k ≤ 37) → k ≠ 40 → k ≠ 41 → bel k n s U = bel k n s u := fun k n p1 p2 p3 p4 p5 => by unfold bel; rw [ea k p1 p2 p3 p4 p5]
  have e2 : enI U = enI u := by unfold enI; rw [h.1 24 (by omega) (by omega) (by omega) (by omega) (by omega)]
  have e3 : trI U = trI u := by unfold trI; rw [h.1 29 (by omega) (by omega) (by omega) (by omega) (by omega)]
  have e4 := h.2.2.2.2.2.1
  have e6 := h.2.2.2.2.2.2.2.2
  have e9 : waI U = waI u := by unfold waI; rw [h.1 56 (by omega) (by omega) (by omega) (by omega) (by omega)]
  have e10 : peI U = peI u := by unfold peI; rw [h.1 59 (by omega) (by omega) (by omega) (by omega) (by omega)]
  have esn : ((seI u).toNat : Int) = seI u := Int.toNat_of_nonneg s0
  have k5 := a5.1
  have k6 := a6.1
  refine ⟨⟨⟨fun j hj => ?_, fun k hk => ?_, hb.trans a1.2.2⟩, fun z => h18 (a1' z)⟩, ?_, ?_, ?_, ?_, ?_, ?_, fun γ b M hγ hI hM => ?_, ?_, ?_, fun k k1 k2 => (a11 k k1 k2).tr (hf k k1 k2) (by omega)⟩
  · rcases hj with hj | hj
    · exact (h.1 j (by omega) (by omega) (by omega) (by omega) (by omega)).trans (a1.1 j (Or.inl hj))
    · exact (h1 j hj).trans (a1.1 j (Or.inr hj))
  · rcases hk with hk | hk
    · exact (ea k (by omega) (by omega) (by omega) (by omega) (by omega)).trans (a1.2.1 k (Or.inl hk))
    · exact (ha k (by omega)).trans (a1.2.1 k (Or.inr hk))
  · unfold KC; rw [h.cd, eb 21 _ (by omega) (by omega) (by omega) (by omega) (by omega), eb 22 _ (by omega) (by omega) (by omega) (by omega) (by omega), eb 23 _ (by omega) (by omega) (by omega) (by omega) (by omega)]; exact a2
  · unfold KE; rw [e2, eb 25 _ (by omega) (by omega) (by omega) (by omega) (by omega), eb 26 _ (by omega) (by omega) (by omega) (by omega) (by omega), eb 27 _ (by omega) (by omega) (by omega) (by omega) (by omega), eb 28 _ (by omega) (by omega) (by omega) (by omega) (by omega)]; exact a3
  · unfold KT; rw [e3, eb 31 _ (by omega) (by omega) (by omega) (by omega) (by omega), eb 32 _ (by omega) (by omega) (by omega) (by omega) (by omega)]
    exact ⟨a4.1, fun j hj => (h.2.2.1 j (by omega)).trans (a4.2.1 j hj), a4.2.2⟩
  · refine ⟨by omega, fun j hj => (h.2.2.2.1 34 j (by omega) (by omega) (by omega)).trans (a5.2.1 j hj), fun j hj => (h.2.2.2.1 35 j (by omega) (by omega) (by omega)).trans (a5.2.2.1 j hj), fun j hj => (h.2.2.2.1 36 j (by omega) (by omega) (by omega)).trans (a5.2.2.2.1 j hj), fun j hj => (h.2.2.2.2.1 j (by omega) (fun q => by have := hCL j q; omega)).trans (a5.2.2.2.2.1 j hj), fun j j1 j2 => ?_⟩
    by_cases q : (j : Int) < caI u
    · have e : gv U 36 j = gv u 36 j := by unfold gv; rw [h.2.2.2.1 36 j (by omega) (by omega) q]
      rw [e]
      have := a5.2.2.2.2.2 j j1 q
      omega
    · have := (h.2.2.2.2.2.2.2.1 j (by omega) j2).2.2
      have := a6.2.1
      omega
  · exact ⟨by have := hs.1; omega, by have := a6.2.1; omega, fun j hj => ((hs.2.1 j (by omega)).1).trans (a6.2.2.1 j hj), fun j hj => ((hs.2.1 j (by omega)).2).trans (a6.2.2.2 j hj)⟩
  · unfold KG; rw [h.go, eb 44 _ (by omega) (by omega) (by omega) (by omega) (by omega), eb 47 _ (by omega) (by omega) (by omega) (by omega) (by omega), ea 50 (by omega) (by omega) (by omega) (by omega) (by omega), ea 51 (by omega) (by omega) (by omega) (by omega) (by omega), ea 46 (by omega) (by omega) (by omega) (by omega) (by omega)]; exact a7
  · obtain ⟨L1, c1, c2⟩ := a8 γ b M hγ hI hM
    exact ⟨L1, by rw [h.hd]; exact h.isch c1, by rw [h.cd]; exact c2⟩
  · unfold KW; rw [e9, eb 57 _ (by omega) (by omega) (by omega) (by omega) (by omega), eb 58 _ (by omega) (by omega) (by omega) (by omega) (by omega)]; exact a9
  · unfold KQ; rw [e10, eb 60 _ (by omega) (by omega) (by omega) (by omega) (by omega), eb 61 _ (by omega) (by omega) (by omega) (by omega) (by omega), eb 62 _ (by omega) (by omega) (by omega) (by omega) (by omega)]; exact a10
theorem PRL.cat {id : Nat} {CL NL : List Nat} {u U : RS} (hp : PRL u) (h : CATR id CL NL u U) : PRL U := by
  have ea : ∀ k : Nat, k < 64 → k ≠ 30 → ¬ (34 ≤ k ∧ k ≤ 37) → k ≠ 40 → k ≠ 41 → U.a k = u.a k := h.2.1
  have b44 : bel 44 (goI u) u U := fun j _ => by rw [ea 44 (by omega) (by omega) (by omega) (by omega) (by omega)]
  have b46 : bel 46 (goI u) u U := fun j _ => by rw [ea 46 (by omega) (by omega) (by omega) (by omega) (by omega)]
  refine ⟨fun γ a1 a2 a3 => ?_, fun γ a1 => hp.2 γ (a1.of h.go b44 b46)⟩
  have q1 := (ACC.of h.go b44 γ).mp a1
  have e : gv U 46 γ = gv u 46 γ := gv_of (ea 46 (by omega) (by omega) (by omega) (by omega) (by omega)) γ
  rw [e] at a3
  obtain ⟨c1, c2, c3⟩ := hp.1 γ q1 (by rw [← b44 γ q1.1]; exact a2) a3
  rw [e, h.go]
  exact ⟨c1, c2, by rw [b44 _ (by omega)]; exact c3⟩
end
section
/-! reading: try: a catch's head, run -/
def RATN (s u : RS) : Prop := cdI u - cdI s ≤ 3 * (fr u - fr s) ∧ 2 * (enI u - enI s) ≤ fr u - fr s ∧ 6 * (trI u - trI s) ≤ fr u - fr s + 2 ∧ 3 * (caI u - caI s) ≤ fr u - fr s ∧ 2 * (slI u - slI s) ≤ fr u - fr s ∧ 3 * (peI u - peI s) ≤ fr u - fr s ∧ tkI u - tkI s ≤ fr u - fr s
/-- a try's frame behind its body -/
def TI (t : Nat) (s : RS) (id : Nat) (CL : List Nat) (e : Int) (w : RS) : Prop := (INVW w ∧ tpI w = t ∧ KP t s w ∧ PRL w) ∧ (w.i 19 = s.i 19 ∧ w.i 43 = s.i 43 ∧ w.i 52 = s.i 52 + 1 ∧ waI w = waI s + 1 ∧ w.i 38 = s.i 38) ∧ (gv w 57 (waI s).toNat = id ∧ gv w 58 (waI s).toNat = goI s) ∧ (RATN s w ∧ fr s + 4 ≤ fr w ∧ tkI s + 1 ≤ tkI w) ∧ (w.a 64 t = 15 ∧ (w.a 66 t).toInt = (id : Int) ∧ FC w t CL ∧ (w.a 67 t = 1 ∨ CL ≠ [] → 6 * (trI w - trI s) ≤ fr w - fr s)) ∧ (w.a 21 (cdI s).toNat = 1 ∧ w.a 21 (cdI s + 1).toNat = 31 ∧ (w.a 22 (cdI s + 1).toNat).toInt = (id : Int)) ∧ (trI s + 1 ≤ trI w ∧ gv w 31 id = -1 ∧ CACH w (gv w 30 id) CL ∧ ∀ j ∈ CL, caI s ≤ (j : Int) ∧ (j : Int) < caI w ∧ e ≤ gv w 35 j) ∧ (cdI s + 2 ≤ e ∧ e ≤ cdI w) ∧ (¬ 0 ≤ w.i 18 → TRX CL id (cdI s + 2) e (w.a 68 t = 1) s w)
theorem F256 {N : Nat} {m : Nat} {s σ : RS} {P : RS → Prop} {x2 : Int32} (hF : ∀ u, FS' s u → P u) (kσ : K1 s σ) (hl : LXI σ) (r75 : σ.i 75 = 0 ∨ σ.i 75 = 1) (h15 : ¬ σ.i 15 = 0) (m1 : 1 ≤ m) : ok ((f_X12_catching_256 N σ x2).bind fun p => f_X12_parse_10 N m p) P := by
  have go : ∀ y : Int32, ok (((f_X12_can N σ y).bind fun p25 => (if p25.1 = 0 then some p25.2 else f_X12_catching_277 N p25.2 x2)).bind fun p => f_X12_parse_10 N m p) P := fun y => by
    obtain ⟨G, eG, y1, y2, hG⟩ := p_cn (N := N) hl y
    rw [eG]
    show ok ((if G.1 = 0 then some G.2 else f_X12_catching_277 N G.2 x2 : Option RS).bind fun p => f_X12_parse_10 N m p) P
    rcases hG with ⟨y3, y4⟩ | ⟨y3, y4, y5, y6⟩
    · rw [if_pos y3]; exact lp_f (u := G.2) y4 (hF _ (FS'.of kσ y1 y4 r75)) m1
    · exact absurd y5 h15
  unfold f_X12_catching_256
  by_cases c : σ.i 10 = 2
  · rw [if_pos c]; exact go 1
  · rw [if_neg c]; exact go 0
theorem CATH {N : Nat} (hN : 1000 ≤ N) {m : Nat} {s w : RS} {t id : Nat} {CL : List Nat} {e : Int} {P : RS → Prop} {x1 : Int32} (hI : INV s) (h9 : t < 997) (hF : ∀ u, FS' s u → P u) (hid : (id : Int) = trI s) (hw : TI t s id CL e w) (tok : w.i 10 = 425) (ibx : ib x1 1000) (nx : x1.toNatClampNeg = t) (m1 : 1 ≤ m) (hC : ∀ (U : RS) (NL : List Nat), CATR id CL NL w U → SEN w U → NL ≠ [] → INVW U → KP t s U → PRL U → tpI U = t → U.i 19 = w.i 19 → U.i 52 = w.i 52 → U.i 75 = w.i 75 → (0 ≤ w.i 18 → 0 ≤ U.i 18) → fr w + 6 ≤ fr U → tkI w + 1 ≤ tkI U → RATN s U → FC U t (CL ++ NL) → CACH U (gv U 30 id) (CL ++ NL) → U.a 71 t = w.i 38 → (∀ k : Nat, 64 ≤ k → k ≤ 73 → k ≠ 71 → k ≠ 72 → U.a k t = w.a k t) → ok (f_X12_parse_10 N m (TH U t 3 3)) P) : ok ((f_X12_catching N (RS.setA w 71 t (w.i 38)) x1).bind fun p => f_X12_parse_10 N m p) P := by
  obtain ⟨⟨a1, a2, a3, a4⟩, ⟨b1, b2, b3, b4, b5⟩, ⟨c1, c2⟩, ⟨d1, d2, d3⟩, ⟨e1, e2, e3, e4⟩, ⟨f1, f2, f3⟩, ⟨g1, g2, g3, g4⟩, ⟨h1, h2⟩, k1⟩ := hw
  have fw := a1.1.f0
  have nw := a1.2.2.2.2
  have ns := hI.2.2.2.2
  have hop := hI.op
  have fs := hI.1.f0
  have id2 : id < 200 := by have := ns.2.2.2.1; omega
  obtain ⟨V, hV⟩ : ∃ V, V = RS.setA w 71 t (w.i 38) := ⟨_, rfl⟩
  have iV : V.i = w.i := by rw [hV]; rfl
  have bV : V.b = w.b := by rw [hV]; rfl
  have aV : ∀ k : Nat, k ≠ 71 → V.a k = w.a k := fun k hk => by rw [hV]; exact setA_nk hk
  have V71 : V.a 71 t = w.i 38 := by rw [hV]; exact setA_at
  have V71n : ∀ j : Nat, j ≠ t → V.a 71 j = w.a 71 j := fun j hj => by rw [hV]; exact setA_ne hj
  have lV : LXI V := by rw [hV]; exact LXI.sA a1.1 71 t (w.i 38)
  rw [← hV]
  clear hV
  have fV : fr V = fr w := by unfold fr; rw [iV]
  have tV : tkI V = tkI w := by unfold tkI; rw [iV]
  unfold f_X12_catching
  obtain ⟨R, eR, l1, l2, l3, l4⟩ := p_nx hN lV
  rw [eR]
  clear eR
  obtain ⟨R15, rc⟩ := l4 (by rw [iV]; exact a1.2.2.1)
  obtain ⟨n1, n2, n3⟩ := rc (by rw [iV, tok]; decide)
  have n3 := n3 (Or.inl (by rw [iV, tok]; decide))
  have tkw := nw.2.2.2.2.2.2.2.2.2.2.2
  have tR : tkI R = tkI V + 1 := tk_add n1 ⟨by omega, by omega⟩
  have fR := l1.2.2.2.1.f0
  show ok (((f_X12_open N R 40).bind fun p3 => f_X12_catching_18 N N p3.2 x1 (V.i 33) 1).bind fun p => f_X12_parse_10 N m p) P
  obtain ⟨q, eq, o1, o2, o3⟩ := p_op hN l1.2.2.2.1 40 (by decide)
  rw [eq]
  clear eq
  show ok ((f_X12_catching_18 N N q.2 x1 (V.i 33) 1).bind fun p => f_X12_parse_10 N m p) P
  obtain ⟨u, hu⟩ : ∃ u, u = q.2 := ⟨_, rfl⟩
  rw [← hu] at o1 o2 o3 ⊢
  clear hu
  have lu : LX V u := l1.tr o1
  have ua : ∀ k : Nat, k ≠ 71 → u.a k = w.a k := fun k hk => by rw [lu.1]; exact aV k hk
  have ui : ∀ j : Nat, j < 10 ∨ 18 ≤ j → j ≠ 19 → u.i j = w.i j := fun j p q => (lu.2.2.1 j p q).trans (by rw [iV])
  have cau : caI u = caI w := by unfold caI; rw [ui 33 (by omega) (by omega)]
  have gu : ∀ k j : Nat, k ≠ 71 → gv u k j = gv w k j := fun k j hk => gv_of (ua k hk) j
  have hCLu : ∀ j ∈ CL, (j : Int) < caI u := fun j hj => by have := (g4 j hj).2.1; omega
  have fuR := o1.2.2.2.2.2
  have ct0 : CTL t id CL [] u u := by
    refine ⟨⟨lu.2.2.2.1, Int.le_refl _, rfl⟩, fun _ _ _ _ => rfl, fun _ _ _ _ _ => rfl, fun _ _ => rfl, fun _ _ => rfl, fun _ _ => rfl, fun _ _ _ => rfl, ⟨Int.le_refl _, fun j => ⟨fun q => absurd q List.not_mem_nil, fun q => by omega⟩⟩, ?_, ?_⟩
    · rw [List.append_nil, gu 30 id (by decide)]
      exact g3.of (fun j _ => gu 37 j (by decide))
    · rw [List.append_nil]
      unfold FC at e3 ⊢
      rw [ua 72 (by decide)]; exact e3
  have gd0 : u.i 15 = 0 → CTG u u ∧ u.i 19 = w.i 19 + 1 ∧ tkI u = tkI w + 2 ∧ fr w + 3 ≤ fr u := fun q => by
    obtain ⟨-, ⟨m1', m2', -⟩, m4, -⟩ := o3 q
    have tu : tkI u = tkI R + 1 := tk_add m1' ⟨by omega, by omega⟩
    exact ⟨⟨q, rfl, Int.le_refl _, by omega, by omega, by omega, by omega⟩, m4.trans (by rw [l2, iV]), by omega, by omega⟩
  have hbu : RB u := RB.of (ui 2 (by omega) (by omega)) (ui 3 (by omega) (by omega)) (ua 4 (by decide)) (ua 6 (by decide)) (ua 7 (by decide)) a1.2.1
  have fu9 := lu.2.2.2.1.f0
  have nca := nw.2.2.2.2.1
  have kw := a3.1.1
  have ku : K1 s u := ⟨fun j hj => (ui j (by omega) (by omega)).trans (kw.1 j hj), fun k hk => (ua k (by omega)).trans (kw.2.1 k hk), by rw [lu.2.1, bV]; exact kw.2.2⟩
  by_cases u15 : u.i 15 = 0
  case neg =>
    rw [p_c18f (by omega) u15]
    exact F256 hF ku lu.2.2.2.1 (by rw [ui 75 (by omega) (by omega)]; exact a1.r) u15 m1
  obtain ⟨gd1, gd2, gd3, gd4⟩ := gd0 u15
  obtain ⟨σ, NL, eσ, cσ, hσ⟩ := p_c18 hN (x2 := V.i 33) hbu ibx nx (by rw [ua 66 (by decide)]; exact e2) id2 (by omega) (by omega) hCLu N u 1 [] ct0 (Or.inr rfl) (fun q => ⟨gd1, fun _ => by omega⟩) (fun q => absurd q (by decide)) (by omega)
  rw [eσ]
  clear eσ
  have σi : ∀ j : Nat, j < 10 ∨ 18 ≤ j → j ≠ 19 → j ≠ 33 → σ.i j = w.i j := fun j p q r => (cσ.2.1 j p q r).trans (ui j p q)
  have σa : ∀ k : Nat, k ≠ 30 → k ≠ 34 → k ≠ 37 → k ≠ 72 → k ≠ 71 → σ.a k = w.a k := fun k p1 p2 p3 p4 p5 => (cσ.2.2.1 k p1 p2 p3 p4).trans (ua k p5)
  have σb : σ.b = w.b := cσ.1.2.2.trans (lu.2.1.trans bV)
  have kσ : K1 s σ := ⟨fun j hj => (σi j (by omega) (by omega) (by omega)).trans (kw.1 j hj), fun k hk => (σa k (by omega) (by omega) (by omega) (by omega) (by omega)).trans (kw.2.1 k hk), by rw [σb]; exact kw.2.2⟩
  have r75 : σ.i 75 = 0 ∨ σ.i 75 = 1 := by rw [σi 75 (by omega) (by omega) (by omega)]; exact a1.r
  by_cases y5 : σ.i 15 = 0
  case neg => exact F256 hF kσ cσ.1.1 r75 y5 m1
  have flt : ∀ S : RS, LX σ S → ¬ S.i 15 = 0 → ok (f_X12_parse_10 N m S) P := fun S x h => lp_f h (hF _ (FS'.of kσ x h r75)) m1
  unfold f_X12_catching_256
  by_cases c10 : σ.i 10 = 2
  case neg =>
    rw [if_neg c10]
    obtain ⟨G, eG, y1, y2⟩ := can0 (N := N) cσ.1.1 y5
    rw [eG]
    exact flt G y1 y2
  rw [if_pos c10, can1 y5 (by rw [c10]; decide)]
  show ok ((if (1 : Int32) = 0 then some σ else f_X12_catching_277 N σ (V.i 33) : Option RS).bind fun p => f_X12_parse_10 N m p) P
  rw [if_neg (by decide)]
  obtain ⟨⟨g15, g19, gt1, gt2, gc, gt3, gt4⟩, hne⟩ := hσ.resolve_left (fun q => q y5)
  have seσ : seI σ = seI w := by unfold seI; rw [σi 38 (by omega) (by omega) (by omega)]
  have slσ : slI σ = slI w := by unfold slI; rw [σi 42 (by omega) (by omega) (by omega)]
  have fσ := cσ.1.1.f0
  have fuσ := cσ.1.2.1
  have nse := nw.2.2.2.2.2.1
  have nsl := nw.2.2.2.2.2.2.1
  have hcaσ := cσ.2.2.2.2.2.2.2.1.1
  have hNL := cσ.2.2.2.2.2.2.2.1.2
  have ca1 : caI u + 1 ≤ caI σ := by
    obtain ⟨j, hj⟩ : ∃ j, j ∈ NL := by
      cases NL with
      | nil => exact absurd rfl hne
      | cons a _ => exact ⟨a, List.mem_cons_self ..⟩
    have := (hNL j).mp hj
    omega
  unfold f_X12_catching_277
  obtain ⟨⟨p1, p2⟩, ep, e2', e3'⟩ := p_sa hN σ.l (σ := σ) (by omega) (by omega)
  have e2' : p2 = σ := e2'
  subst e2'
  rw [ep]
  clear ep
  show ok ((if p1 < 0 then (f_X12_see N p2 p2.l 1).bind fun p13 => (f_X12_next N p13.2).bind fun p15 => (f_X12_shut N p15 41).bind fun p17 => f_X12_catching_323 N N p17.2 p13.1 (V.i 33) else (f_X12_fail N p2 4 (p2.i 11)).bind fun p23 => some p23 : Option RS).bind fun p => f_X12_parse_10 N m p) P
  by_cases cn : p1 < 0
  case neg =>
    rw [if_neg cn]
    obtain ⟨S, eS, y1, y2, y3⟩ := p_fl (N := N) cσ.1.1 4 (p2.i 11) (by decide)
    rw [eS]
    exact flt S y1 y2
  rw [if_pos cn, p_se (N := N) (u := p2) p2.l (Or.inr rfl) (by omega) (by omega)]
  obtain ⟨Y, hY⟩ : ∃ Y, Y = SE p2 p2.l 1 := ⟨_, rfl⟩
  have iY : ∀ j : Nat, j ≠ 38 → j ≠ 42 → Y.i j = p2.i j := fun j p q => by rw [hY]; exact SE.eI p q
  have aY : ∀ k : Nat, k ≠ 40 → k ≠ 41 → Y.a k = p2.a k := fun k p q => by rw [hY]; exact SE.eA p q
  have loY : ∀ k j : Nat, j ≠ (seI w).toNat → Y.a k j = p2.a k j := fun k j hj => by
    have e : (p2.i 38).toNatClampNeg = (seI w).toNat := by show (seI p2).toNat = _; rw [seσ]
    rw [hY]; exact SE.lo (by rw [e]; exact hj)
  have Y40 : Y.a 40 (seI w).toNat = p2.i 42 := by
    have e : (p2.i 38).toNatClampNeg = (seI w).toNat := by show (seI p2).toNat = _; rw [seσ]
    rw [hY, ← e]; exact SE.a40
  have Y41 : Y.a 41 (seI w).toNat = 1 := by
    have e : (p2.i 38).toNatClampNeg = (seI w).toNat := by show (seI p2).toNat = _; rw [seσ]
    rw [hY, ← e]; exact SE.a41
  have seY : seI Y = seI w + 1 := by rw [hY, SE.eSE (by omega) (by omega), seσ]
  have slY : slI Y = slI w + 1 := by rw [hY, SE.eSL (by omega) (by omega), slσ]
  have bY : Y.b 9 = p2.b 9 := by rw [hY]; rfl
  show ok (((f_X12_next N (SE p2 p2.l 1)).bind fun p15 => (f_X12_shut N p15 41).bind fun p17 => f_X12_catching_323 N N p17.2 (p2.i 42) (V.i 33)).bind fun p => f_X12_parse_10 N m p) P
  rw [← hY]
  clear hY
  have lY : LXI Y := cσ.1.1.of (iY 2 (by decide) (by decide)) (iY 10 (by decide) (by decide)) (iY 11 (by decide) (by decide)) (iY 12 (by decide) (by decide)) (iY 14 (by decide) (by decide)) bY
  obtain ⟨Y1, eY1, r1, r2, r3, r4⟩ := p_nx hN lY
  rw [eY1]
  clear eY1
  obtain ⟨Y15, yc⟩ := r4 ((iY 15 (by decide) (by decide)).trans y5)
  obtain ⟨v1, v2, -⟩ := yc (by rw [iY 10 (by decide) (by decide), c10]; decide)
  show ok (((f_X12_shut N Y1 41).bind fun p17 => f_X12_catching_323 N N p17.2 (p2.i 42) (V.i 33)).bind fun p => f_X12_parse_10 N m p) P
  obtain ⟨S0, eS0, t1, t2, t3⟩ := p_sh hN r1.2.2.2.1 41 (by decide)
  rw [eS0]
  clear eS0
  show ok ((f_X12_catching_323 N N S0.2 (p2.i 42) (V.i 33)).bind fun p => f_X12_parse_10 N m p) P
  obtain ⟨S, hS⟩ : ∃ S, S = S0.2 := ⟨_, rfl⟩
  rw [← hS] at t1 t2 t3 ⊢
  clear hS
  have lYS : LX Y S := r1.tr t1
  have fY : fr Y = fr p2 := by unfold fr; rw [iY 11 (by decide) (by decide)]
  have tY : tkI Y = tkI p2 := by unfold tkI; rw [iY 17 (by decide) (by decide)]
  have Si : ∀ j : Nat, j < 10 ∨ 18 ≤ j → j ≠ 19 → j ≠ 33 → j ≠ 38 → j ≠ 42 → S.i j = w.i j := fun j p q r r2 r3 => (lYS.2.2.1 j p q).trans ((iY j r2 r3).trans (σi j p q r))
  have caS : caI S = caI p2 := by unfold caI; rw [lYS.2.2.1 33 (by omega) (by omega), iY 33 (by decide) (by decide)]
  have cdS : cdI S = cdI w := by unfold cdI; rw [Si 20 (by omega) (by omega) (by omega) (by omega) (by omega)]
  have tpS : tpI S = t := by unfold tpI; rw [Si 63 (by omega) (by omega) (by omega) (by omega) (by omega)]; exact a2
  have V33 : (V.i 33).toInt = caI w := by rw [iV]; rfl
  have caP : caI p2 ≤ 400 := by omega
  obtain ⟨U, eU, u1, u2, u3, u4, u5⟩ := p_323 (N := N) (x4 := p2.i 42) (show t < 998 by omega) N S (V.i 33) (by omega) (by omega) (by omega) (by omega) tpS
  rw [eU]
  clear eU
  show ok (f_X12_parse_10 N m (TH U t 3 3)) P
  have Ui : ∀ j : Nat, j < 10 ∨ 18 ≤ j → j ≠ 19 → j ≠ 33 → j ≠ 38 → j ≠ 42 → U.i j = w.i j := fun j p q r r2 r3 => by rw [u1]; exact Si j p q r r2 r3
  have Ua : ∀ k : Nat, k ≠ 30 → ¬ (34 ≤ k ∧ k ≤ 37) → k ≠ 40 → k ≠ 41 → k ≠ 71 → k ≠ 72 → U.a k = w.a k := fun k q1 q2 q3 q4 q5 q6 => (u3 k (by omega) (by omega)).trans ((by rw [lYS.1] : S.a k = Y.a k).trans ((aY k q3 q4).trans (σa k q1 (by omega) (by omega) q6 q5)))
  have Ub : U.b 9 = w.b 9 := by rw [u2, lYS.2.1, bY, σb]
  by_cases S15 : S.i 15 = 0
  case neg =>
    have U15 : ¬ U.i 15 = 0 := by rw [u1]; exact S15
    refine lp_f (u := TH U t 3 3) U15 (hF _ (FS'.th ⟨U15, ⟨fun j hj => (Ui j (by omega) (by omega) (by omega) (by omega) (by omega)).trans (kw.1 j hj), fun k hk => (Ua k (by omega) (by omega) (by omega) (by omega) (by omega) (by omega)).trans (kw.2.1 k hk), Ub.trans kw.2.2⟩, ?_⟩)) m1
    rw [Ui 75 (by omega) (by omega) (by omega) (by omega) (by omega)]; exact a1.r
  obtain ⟨-, ⟨w1, w2, -⟩, w4⟩ := t3 S15
  have f1 := r1.2.2.2.1.f0
  have tY1 : tkI Y1 = tkI Y + 1 := tk_add v1 ⟨by omega, by omega⟩
  have tS : tkI S = tkI Y1 + 1 := tk_add w1 ⟨by omega, by omega⟩
  have S19 : S.i 19 = w.i 19 := by rw [w4, r2, iY 19 (by decide) (by decide), g19, gd2, Int32.add_sub_cancel]
  have fU : fr U = fr S := by unfold fr; rw [u1]
  have tU : tkI U = tkI S := by unfold tkI; rw [u1]
  have caU : caI U = caI p2 := by unfold caI at *; rw [u1]; exact caS
  have seU : seI U = seI w + 1 := by rw [← seY]; unfold seI; rw [u1, lYS.2.2.1 38 (by omega) (by omega)]
  have slU : slI U = slI w + 1 := by rw [← slY]; unfold slI; rw [u1, lYS.2.2.1 42 (by omega) (by omega)]
  have fSf := lYS.2.2.2.1.f0
  have Uσ : ∀ k : Nat, k ≠ 35 → k ≠ 36 → k ≠ 40 → k ≠ 41 → U.a k = p2.a k := fun k q1 q2 q3 q4 => (u3 k q1 q2).trans ((by rw [lYS.1] : S.a k = Y.a k).trans (aY k q3 q4))
  have cat : CATR id CL NL w U := by
    refine ⟨fun j p q r r2 r3 => Ui j (by omega) (by omega) q r r2, fun k q1 q2 q3 q4 q5 => Ua k q2 q3 q4 q5 (by omega) (by omega), fun j hj => ?_, fun k j q1 q2 hj => ?_, fun j hj hn => ?_, by omega, fun j hj => ?_, fun j j1 j2 => ?_, slU⟩
    · rw [Uσ 30 (by decide) (by decide) (by decide) (by decide), cσ.2.2.2.1 j hj, ua 30 (by decide)]
    · by_cases c34 : k = 34
      · subst c34
        rw [Uσ 34 (by decide) (by decide) (by decide) (by decide), cσ.2.2.2.2.2.1 j (by omega), ua 34 (by decide)]
      · have e35 : S.a k = w.a k := by rw [lYS.1, aY k (by omega) (by omega), σa k (by omega) c34 (by omega) (by omega) (by omega)]
        have := u4 j (Or.inl (by omega))
        by_cases c35 : k = 35
        · subst c35; rw [this.1, e35]
        · have c36 : k = 36 := by omega
          subst c36; rw [this.2, e35]
    · rw [Uσ 37 (by decide) (by decide) (by decide) (by decide), cσ.2.2.2.2.2.2.1 j (by omega) hn, ua 37 (by decide)]
    · have := (hNL j).mp hj
      omega
    · obtain ⟨z1, z2⟩ := u5 j (by omega) (by omega)
      refine ⟨(hNL j).mpr ⟨by omega, by omega⟩, ?_, ?_⟩
      · unfold gv; rw [z1]; exact cdS
      · unfold gv; rw [z2]; exact slσ
  have sen : SEN w U := by
    refine ⟨seU, fun j hj => ⟨?_, ?_⟩, ?_, ?_⟩
    · rw [u3 40 (by decide) (by decide), lYS.1, loY 40 j hj, σa 40 (by decide) (by decide) (by decide) (by decide) (by decide)]
    · rw [u3 41 (by decide) (by decide), lYS.1, loY 41 j hj, σa 41 (by decide) (by decide) (by decide) (by decide) (by decide)]
    · unfold gv; rw [u3 40 (by decide) (by decide), lYS.1, Y40]; exact slσ
    · rw [u3 41 (by decide) (by decide), lYS.1]; exact Y41
  have chU : CACH U (gv U 30 id) (CL ++ NL) := by
    have e : gv U 30 id = gv p2 30 id := gv_of (Uσ 30 (by decide) (by decide) (by decide) (by decide)) id
    rw [e]
    exact cσ.2.2.2.2.2.2.2.2.1.of (fun j _ => gv_of (Uσ 37 (by decide) (by decide) (by decide) (by decide)) j)
  have fcU : FC U t (CL ++ NL) := by
    have := cσ.2.2.2.2.2.2.2.2.2
    unfold FC at this ⊢
    rw [Uσ 72 (by decide) (by decide) (by decide) (by decide)]; exact this
  have U52 : U.i 52 = w.i 52 := Ui 52 (by omega) (by omega) (by omega) (by omega) (by omega)
  have U75 : U.i 75 = w.i 75 := Ui 75 (by omega) (by omega) (by omega) (by omega) (by omega)
  have locU : ∀ (k j : Nat), 64 ≤ k → k ≤ 73 → k ≠ 71 → k ≠ 72 → U.a k j = w.a k j := fun k j q1 q2 q3 q4 => by rw [Ua k (by omega) (by omega) (by omega) (by omega) q3 q4]
  have U71 : ∀ j : Nat, U.a 71 j = V.a 71 j := fun j => by rw [Uσ 71 (by decide) (by decide) (by decide) (by decide), cσ.2.2.1 71 (by decide) (by decide) (by decide) (by decide), lu.1]
  have belU : ∀ k : Nat, 64 ≤ k → k ≤ 73 → bel k t w U := fun k q1 q2 j hj => by
    by_cases q3 : k = 71
    · subst q3; rw [U71, V71n j (by omega)]
    by_cases q4 : k = 72
    · subst q4; rw [Uσ 72 (by decide) (by decide) (by decide) (by decide), cσ.2.2.2.2.1 j (by omega), ua 72 (by decide)]
    · exact locU k j q1 q2 q3 q4
  have tabU : TAB U := a1.2.2.2.1.cat cat sen chU hne (fun j hj => (g4 j hj).2.1) nse.1 (by omega) nca.1 U75 U52
  have kU : KP t s U := a3.cat cat sen (by omega) (fun j hj => (g4 j hj).1) nse.1 (fun j hj => Ui j (by omega) (by omega) (by omega) (by omega) (by omega)) (fun z => by rw [Ui 18 (by omega) (by omega) (by omega) (by omega) (by omega)]; exact z) (fun k hk => Ua k (by omega) (by omega) (by omega) (by omega) (by omega) (by omega)) Ub belU
  have q2 : enI U = enI w := by unfold enI; rw [Ui 24 (by omega) (by omega) (by omega) (by omega) (by omega)]
  have q3 : trI U = trI w := by unfold trI; rw [Ui 29 (by omega) (by omega) (by omega) (by omega) (by omega)]
  have q9 : waI U = waI w := by unfold waI; rw [Ui 56 (by omega) (by omega) (by omega) (by omega) (by omega)]
  have q10 : peI U = peI w := by unfold peI; rw [Ui 59 (by omega) (by omega) (by omega) (by omega) (by omega)]
  have q8 : deI U = deI w := by unfold deI; rw [U52]
  have U19 : U.i 19 = w.i 19 := by rw [u1]; exact S19
  have q1 : op U = op w := by unfold op; rw [U19]
  have iU : INVW U := by
    refine ⟨lYS.2.2.2.1.of (by rw [u1]) (by rw [u1]) (by rw [u1]) (by rw [u1]) (by rw [u1]) (by rw [u2]), hI.2.1.kp kU, by rw [u1]; exact S15, tabU, ?_⟩
    unfold NUMW at nw ⊢
    rw [q1, cat.cd, q2, q3, seU, slU, cat.go, q8, q9, q10, caU, tU]
    omega
  refine hC U NL cat sen hne iU kU (a4.cat cat) ?_ U19 U52 U75 (fun z => by rw [Ui 18 (by omega) (by omega) (by omega) (by omega) (by omega)]; exact z) (by omega) (by omega) ?_ fcU chU (by rw [U71]; exact V71) (fun k q1 q2 q3 q4 => locU k t q1 q2 q3 q4)
  · unfold tpI; rw [Ui 63 (by omega) (by omega) (by omega) (by omega) (by omega)]; exact a2
  · unfold RATN at d1 ⊢
    rw [cat.cd, q2, q3, slU, q10, caU, tU]
    omega
end
