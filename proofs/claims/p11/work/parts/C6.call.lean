/-! reading: calls of frames -/
theorem TBL.sy {u w : RS} (h : TBL u w) : TBL w u := ⟨fun k hk => (h.1 k hk).symm, h.2.1.symm, fun j a b c d => (h.2.2 j a b c d).symm⟩
theorem TBL.loc (u : RS) {k : Nat} (t : Nat) (v : Int32) (h1 : 64 ≤ k) (h2 : k ≤ 73) : TBL u (u.setA k t v) := ⟨fun j hj => if_neg (by omega), rfl, fun _ _ _ _ _ => rfl⟩
theorem INV.loc {u : RS} (h : INV u) {k : Nat} (t : Nat) (v : Int32) (h1 : 64 ≤ k) (h2 : k ≤ 73) : INV (u.setA k t v) := h.tbl (TBL.loc u t v h1 h2) h.1 h.2.2.1 rfl rfl h.2.2.2.1.2.2.2.2.2.2.2.2.2 (Int.le_refl _) h.2.2.2.2.2.2.2.2.2.2.2.2.2.2.2
theorem KP.loc {t : Nat} {s u : RS} (h : KP t s u) {k : Nat} (j : Nat) (v : Int32) (h1 : 64 ≤ k) (h2 : k ≤ 73) (hj : t ≤ j) : KP t s (u.setA k j v) := h.tbl (TBL.loc u j v h1 h2) id (fun k9 k1 k2 i hi => by
  show (if k9 = k then upd (u.a k) j v else u.a k9) i = u.a k9 i
  by_cases c : k9 = k
  · subst c
    rw [if_pos rfl]
    show (if i = j then v else u.a k9 i) = _
    rw [if_neg (by omega)]
  · rw [if_neg c])
theorem NUM.of {t : Nat} {s u : RS} (h : NUM s) (hk : KP t s u) (ho : op s ≤ op u ∧ op u ≤ 20) (e43 : u.i 43 = s.i 43) (e52 : u.i 52 = s.i 52) (e56 : u.i 56 = s.i 56) (e38 : u.i 38 = s.i 38) (hr : RATE s u) (hf : fr s ≤ fr u) (htk : tkI s ≤ tkI u) : NUM u := by
  have g : goI u = goI s := by unfold goI; rw [e43]
  have d : deI u = deI s := by unfold deI; rw [e52]
  have w : waI u = waI s := by unfold waI; rw [e56]
  have e : seI u = seI s := by unfold seI; rw [e38]
  have k2 := hk.2.1.1
  have k3 := hk.2.2.1.1
  have k4 := hk.2.2.2.1.1
  have k5 := hk.2.2.2.2.1.1
  have k6 := hk.2.2.2.2.2.1.2.1
  have k10 := hk.2.2.2.2.2.2.2.2.2.1.1
  unfold RATE at hr
  unfold NUM at h ⊢
  rw [g, d, w, e]
  omega
theorem RB.kp {t : Nat} {s u : RS} (h : RB s) (hk : KP t s u) : RB u := RB.of (hk.1.1.1 2 (by omega)) (hk.1.1.1 3 (by omega)) (hk.1.1.2.1 4 (by omega)) (hk.1.1.2.1 6 (by omega)) (hk.1.1.2.1 7 (by omega)) h
theorem INV.mk2 {t : Nat} {s u : RS} (h : INV s) (hk : KP t s u) (hl : LXI u) (h15 : u.i 15 = 0) (ht : TAB u) (ho : op s ≤ op u ∧ op u ≤ 20) (e43 : u.i 43 = s.i 43) (e52 : u.i 52 = s.i 52) (e56 : u.i 56 = s.i 56) (e38 : u.i 38 = s.i 38) (hr : RATE s u) (hf : fr s ≤ fr u) (htk : tkI s ≤ tkI u) : INV u := ⟨hl, h.2.1.kp hk, h15, ht, h.2.2.2.2.of hk ho e43 e52 e56 e38 hr hf htk⟩
theorem tk_add {u R : RS} (h : R.i 17 = u.i 17 + 1) (h0 : 0 ≤ tkI u ∧ tkI u ≤ 901) : tkI R = tkI u + 1 := by
  unfold tkI at *
  rw [h]
  have e1 : (1 : Int32).toInt = 1 := by decide
  rw [toInt_add] <;> rw [e1] <;> omega
/-- the next token -/
theorem NX {N : Nat} (hN : 1000 ≤ N) {u : RS} (h : INV u) (hz : ¬ u.i 10 = 0) : ∃ R, f_X12_next N u = some R ∧ LX u R ∧ R.i 15 = 0 ∧ R.i 19 = u.i 19 ∧ INV R ∧ fr u + 1 ≤ fr R ∧ tkI R = tkI u + 1 ∧ (410 ≤ u.i 10 ∨ u.i 10 = 5 → fr u + 2 ≤ fr R) := by
  obtain ⟨R, eR, x1, x2, x3, x4⟩ := p_nx hN h.1
  obtain ⟨r15, rc⟩ := x4 h.2.2.1
  obtain ⟨c1, c2, c3⟩ := rc hz
  have n12 := h.2.2.2.2.2.2.2.2.2.2.2.2.2.2.2
  have hf := h.1.f0
  have tk := tk_add c1 ⟨n12.1, by omega⟩
  refine ⟨R, eR, x1, r15, x2, ?_, c2, tk, c3⟩
  exact h.tbl x1.tbl x1.2.2.2.1 r15 x2 (x1.2.2.1 52 (by omega) (by omega)) (by rw [x1.2.2.1 75 (by omega) (by omega)]; exact h.2.2.2.1.2.2.2.2.2.2.2.2.2) (by omega) ⟨by omega, by omega⟩
theorem FS'.of {s u R : RS} (hk : K1 s u) (hx : LX u R) (h15 : ¬ R.i 15 = 0) (h75 : u.i 75 = 0 ∨ u.i 75 = 1) : FS' s R := ⟨h15, ⟨fun j hj => (hx.2.2.1 j (by omega) (by omega)).trans (hk.1 j hj), fun k hk' => by rw [hx.1]; exact hk.2.1 k hk', by rw [hx.2.1]; exact hk.2.2⟩, by rw [hx.2.2.1 75 (by omega) (by omega)]; exact h75⟩
theorem FS'.th {s u : RS} {t : Nat} {st k : Int32} (h : FS' s u) : FS' s (TH u t st k) := ⟨h.1, ⟨fun j hj => (if_neg (by omega)).trans (h.2.1.1 j hj), fun k9 hk => ((TH.tbl u t st k).1 k9 (by omega)).trans (h.2.1.2.1 k9 hk), h.2.1.2.2⟩, h.2.2⟩
theorem FS'.i63 {s u : RS} (h : FS' s u) (v : Int32) : FS' s (u.setI 63 v) := ⟨h.1, ⟨fun j hj => (if_neg (by omega)).trans (h.2.1.1 j hj), h.2.1.2⟩, h.2.2⟩
theorem FS'.kp {t : Nat} {s u w : RS} (hk : KP t s u) (h : FS' u w) : FS' s w := ⟨h.1, hk.1.1.tr h.2.1, h.2.2⟩
theorem FS'.loc {s u : RS} (h : FS' s u) {k : Nat} (t : Nat) (v : Int32) (h1 : 10 ≤ k) (h2 : k ≤ 75) : FS' s (u.setA k t v) := ⟨h.1, ⟨h.2.1.1, fun k9 hk => (if_neg (by omega)).trans (h.2.1.2.1 k9 hk), h.2.1.2.2⟩, h.2.2⟩
theorem FS'.em {s u : RS} (h : FS' s u) (o x : Int32) : FS' s (EM u o x) := ⟨h.1, ⟨fun j hj => (EM.i (by omega)).trans (h.2.1.1 j hj), fun k hk => (EM.a (by omega) (by omega) (by omega)).trans (h.2.1.2.1 k hk), h.2.1.2.2⟩, h.2.2⟩
theorem RATE.em {s v : RS} {o x : Int32} (h : RATE s v) (h0 : 0 ≤ cdI v) (h3 : cdI v < 3000) (hc : cdI v + 1 - cdI s ≤ 3 * (fr v - fr s)) : RATE s (EM v o x) := by
  have e := EM.cd (o := o) (x := x) h0 h3
  have e2 : enI (EM v o x) = enI v := rfl
  have e3 : trI (EM v o x) = trI v := rfl
  have e4 : caI (EM v o x) = caI v := rfl
  have e5 : slI (EM v o x) = slI v := rfl
  have e6 : peI (EM v o x) = peI v := rfl
  have e7 : fr (EM v o x) = fr v := rfl
  have e8 : tkI (EM v o x) = tkI v := rfl
  unfold RATE at *
  rw [e, e2, e3, e4, e5, e6, e7, e8]
  omega
theorem INV.cd {u : RS} (h : INV u) : 0 ≤ cdI u ∧ cdI u ≤ 2700 ∧ cdI u < 3000 := by
  have := h.1.f0
  have := h.2.2.2.2.2.1
  omega
theorem INV.op {u : RS} (h : INV u) : 0 ≤ op u ∧ op u ≤ 20 := h.2.2.2.2.1
theorem INV.tk {u : RS} (h : INV u) : 0 ≤ tkI u ∧ tkI u ≤ fr u + 1 := h.2.2.2.2.2.2.2.2.2.2.2.2.2.2.2
theorem INV.r {u : RS} (h : INV u) : u.i 75 = 0 ∨ u.i 75 = 1 := h.2.2.2.1.2.2.2.2.2.2.2.2.2
theorem INV.tn {u : RS} (h : INV u) : TN u := h.2.2.2.1.1.1
theorem LX.same {u w : RS} (h : LX u w) (h19 : w.i 19 = u.i 19) : SAME u w := ⟨h19, h.2.2.1 43 (by omega) (by omega), h.2.2.1 52 (by omega) (by omega), h.2.2.1 56 (by omega) (by omega)⟩
theorem LX.i38 {u w : RS} (h : LX u w) : w.i 38 = u.i 38 := h.2.2.1 38 (by omega) (by omega)
theorem LX.i63 {u w : RS} (h : LX u w) : w.i 63 = u.i 63 := h.2.2.1 63 (by omega) (by omega)
theorem LX.tp {u w : RS} (h : LX u w) : tpI w = tpI u := by unfold tpI; rw [h.i63]
/-- behind a call from the frame at t -/
def PC (t : Nat) (st : Int32) (u w : RS) : Prop := INV w ∧ tpI w = t ∧ KP t u w ∧ SAME u w ∧ w.i 38 = u.i 38 ∧ RATE u w ∧ fr u + 1 ≤ fr w ∧ tkI u + 1 ≤ tkI w ∧ (¬ 0 ≤ w.i 18 → TE u w) ∧ JT u w ∧ w.a 65 t = st ∧ ∀ k : Nat, 64 ≤ k → k ≤ 73 → k ≠ 65 → w.a k t = u.a k t
theorem CALL {N : Nat} {K : Int32} {r q e : Int} {b : Nat} (hr : RUNE N K r q e b) {n : Nat} {u : RS} {t : Nat} {st : Int32} {P : RS → Prop} (hI : INV u) (ht : tpI u = t) (h9 : t < 999) (hb : 2 * ((t : Int) + 1) ≤ fr u + 12 * op u + 2 * r) (hc : 900 - fr u ≤ b) (hn : 36000 + q ≤ n + 40 * fr u) (hF : ∀ w, FS' u w → P w) (hC : ∀ (m : Nat) (w : RS), PC t st u w → (n : Int) + 40 * fr u + e ≤ m + 40 * fr w → ok (f_X12_parse_10 N m w) P) : ok (f_X12_parse_10 N n (TH u t st K)) P := by
  refine hr n (TH u t st K) (t + 1) P hI.th (TH.tp ht (by omega)) TH.fk TH.fs (by show 2 * (((t + 1 : Nat)) : Int) ≤ fr u + 12 * op u + 2 * r; omega) hc hn (fun w hw => hF w ?_) (fun m w hw hm => hC m w ?_ hm)
  · obtain ⟨a1, a2, a3⟩ := hw
    exact ⟨a1, ⟨fun j hj => (a2.1 j hj).trans (if_neg (by omega)), fun k hk => (a2.2.1 k hk).trans ((TH.tbl u t st K).1 k (by omega)), a2.2.2⟩, a3⟩
  · obtain ⟨a1, a2, a3, a4, a5, a6, a7, a8, a9, a10⟩ := hw
    have kt : KP t u (TH u t st K) := (KP.rf t u).th (Nat.le_refl _)
    have kf := a3.2.2.2.2.2.2.2.2.2.2
    refine ⟨a1, by rw [a2]; omega, kt.tr a3 (by omega), a4, a5, a6, a7, a8, fun z => (a9 z).tbl (TH.tbl u t st K).sy (TBL.rf w) rfl rfl, a10, ?_, fun k k1 k2 k3 => ?_⟩
    · rw [kf 65 (by omega) (by omega) t (by omega)]; exact TH.st
    · rw [kf k k1 k2 t (by omega)]
      by_cases c : k = 64
      · subst c; exact TH.fk0 (Nat.le_refl _)
      · exact congrFun (TH.loc c k3) t
theorem e_sums0 {N : Nat} {u : RS} {t : Nat} (part x : Int32) (ht : tpI u = t) (h9 : t < 999) (h0 : u.a 65 t = 0) : f_X12_sums N u (u.i 63) part x = some (TH u t 1 part) := by
  unfold f_X12_sums
  rw [if_pos (tp_ib ht (by omega)), tp_nat ht, if_pos h0, p_th 1 part ht h9]
  rfl
theorem e_sums1 {N : Nat} {u : RS} {t : Nat} (part x : Int32) (ht : tpI u = t) (h9 : t < 999) (h0 : u.a 65 t = 1) : f_X12_sums N u (u.i 63) part x = f_X12_sums_39 N u (u.i 63) part x := by
  unfold f_X12_sums
  rw [if_pos (tp_ib ht (by omega)), tp_nat ht, if_neg (by rw [h0]; decide), if_neg (by rw [h0]; decide)]
theorem e_sums2 {N : Nat} {u : RS} {t : Nat} (part x : Int32) (ht : tpI u = t) (h9 : t < 999) (h0 : u.a 65 t = 2) (c0 : 0 ≤ cdI u) (c3 : cdI u < 3000) : f_X12_sums N u (u.i 63) part x = f_X12_sums_39 N (EM u 8 (u.a 66 t)) (u.i 63) part x := by
  unfold f_X12_sums
  rw [if_pos (tp_ib ht (by omega)), tp_nat ht, if_neg (by rw [h0]; decide), if_pos h0, p_em 8 _ c0 c3]
  rfl
/-- a value, a sign, a value, an instruction -/
theorem PM.opp {t : Nat} {st o9 x y : Int32} {s w R v : RS} (hI : INV s) (hw : PM t s w) (x1 : LX (w.setA 66 t y) R) (x3 : R.i 19 = w.i 19) (x5 : fr w + 1 ≤ fr R) (x6 : tkI R = tkI w + 1) (hv : PC t st R v) (ho : o9 = 8 ∨ o9 = 9) : PM t s (EM v o9 x) := by
  obtain ⟨a1, a2, a3, a4, a5, a6, a7, a8, a9, a10⟩ := hw
  obtain ⟨v1, v2, v3, v4, v5, v6, v7, v8, v9, v10, v11, v12⟩ := hv
  have kR : KP t w R := ((KP.rf t w).loc (k := 66) t y (by omega) (by omega) (Nat.le_refl _)).lx x1
  have tR2 : TBL w R := (TBL.loc w (k := 66) t y (by omega) (by omega)).tr x1.tbl
  have ksR : KP t s R := a3.tr kR (Nat.le_refl _)
  have sR : SAME w R := ⟨x3, x1.2.2.1 43 (by omega) (by omega), x1.2.2.1 52 (by omega) (by omega), x1.2.2.1 56 (by omega) (by omega)⟩
  have e38R : R.i 38 = s.i 38 := (x1.2.2.1 38 (by omega) (by omega)).trans a5
  have ssv : SAME s v := (a4.tr sR).tr v4
  have cv := v1.cd
  have cs := hI.cd
  have ksv : KP t s v := ksR.tr v3 (Nat.le_refl _)
  have ecd := tR2.cd
  have rsv : RATE s v := (a6.tr (tR2.rate (by omega) (by omega))).tr v6
  have rse : RATE s (EM v o9 x) := rsv.em (by omega) cv.2.2 (by unfold RATE at a6 v6; omega)
  have kse : KP t s (EM v o9 x) := ksv.em (by omega) cv.2.2
  have te : TAB (EM v o9 x) := v1.2.2.2.1.em (by omega) cv.2.2
  have ov : op v = op s := by unfold op; rw [ssv.1]
  have tks : tkI s ≤ tkI v := by omega
  refine ⟨hI.mk2 kse (LXI.em v1.1) v1.2.2.1 te ⟨by show op s ≤ op v; omega, by show op v ≤ 20; have := hI.op; omega⟩ ssv.2.1 ssv.2.2.1 ssv.2.2.2 (v5.trans e38R) rse (by show fr s ≤ fr v; omega) tks, v2, kse, ssv, v5.trans e38R, rse, by show fr s + 1 ≤ fr v; omega, by show tkI s + 1 ≤ tkI v; omega, fun z => ?_, ⟨?_, fun _ z => ?_⟩⟩
  · have z1 : ¬ 0 ≤ v.i 18 := z
    have z2 : ¬ 0 ≤ w.i 18 := fun q => z1 (v3.1.2 (kR.1.2 q))
    exact TE.op (a9 z2) a3 a1.tn kR (v9 z1) v3 v1.tn ecd cv.2.2 cs.1 ((v4.2.1.trans sR.2.1).symm) e38R (sR.2.2.1.trans a4.2.2.1) ssv.2.2.1 (by omega) v7 v1.1.f0.2 ho
  · have b1 : bel 46 (goI w) w R := fun j _ => by rw [x1.1]; rfl
    have g1 : goI w = goI s := by unfold goI; rw [a4.2.1]
    have g2 : goI R = goI w := by unfold goI; rw [sR.2.1]
    exact ((a10.1.tr b1 (by omega)).tr v10.1 (by omega))
  · have z : tkI v = tkI s + 1 := z
    omega
theorem sums_tail {N : Nat} (hN : 1000 ≤ N) {part : Int32} {r qp ep : Int} {b : Nat} (hp : RUNE N part (r + 1) qp ep b) {s w : RS} {t m : Nat} {P : RS → Prop} (h9 : t < 998) (hI : INV s) (hb : 2 * (t : Int) ≤ fr s + 12 * op s + 2 * r) (hc : 900 - fr s ≤ b) (hw : PM t s w) (hm : 36000 + qp ≤ m + 40 * fr w + 40) (hF : ∀ u, FS' s u → P u) (hH : ∀ (m2 : Nat) (v : RS), tpI v = t → v.a 64 t = w.a 64 t → v.a 65 t = 2 → INV v → PM t s (EM v 8 (v.a 66 t)) → fr w < fr v → (m : Int) + 40 * fr w + 40 + ep ≤ m2 + 40 * fr v → ok (f_X12_parse_10 N m2 v) P) (hz : ¬ w.i 10 = 0) : ok ((f_X12_sums_39 N w (w.i 63) part 1).bind fun p => f_X12_parse_10 N m p) P := by
  have hw' := hw
  obtain ⟨a1, a2, a3, a4, a5, a6, a7, a8, a9, a10⟩ := hw'
  unfold f_X12_sums_39
  rw [if_neg (by decide), if_pos (tp_ib a2 (by omega)), tp_nat a2]
  obtain ⟨R, eR, x1, x2, x3, x4, x5, x6, x7⟩ := NX hN (a1.loc (k := 66) t (w.i 10) (by omega) (by omega)) hz
  rw [eR]
  have tR : tpI R = t := x1.tp.trans a2
  show ok (((f_X12_then N R 2 part).bind fun p => some p).bind fun p => f_X12_parse_10 N m p) P
  rw [p_th 2 part tR (by omega)]
  show ok (f_X12_parse_10 N m (TH R t 2 part)) P
  have kR : KP t w R := ((KP.rf t w).loc (k := 66) t (w.i 10) (by omega) (by omega) (Nat.le_refl _)).lx x1
  have x5 : fr w + 1 ≤ fr R := x5
  have x6 : tkI R = tkI w + 1 := x6
  have oR : op R = op s := by unfold op; rw [x3]; exact congrArg _ a4.1
  have ksR : KP t s R := a3.tr kR (Nat.le_refl _)
  refine CALL hp x4 tR (by omega) (by omega) (by omega) (by omega) (fun u hu => hF u (FS'.kp ksR hu)) (fun m2 v hv hm2 => ?_)
  have hv' := hv
  obtain ⟨v1, v2, v3, v4, v5, v6, v7, v8, v9, v10, v11, v12⟩ := hv'
  refine hH m2 v v2 ?_ v11 v1 (PM.opp hI hw x1 x3 x5 x6 hv (Or.inl rfl)) (by omega) (by omega)
  rw [v12 64 (by omega) (by omega) (by omega), x1.1]
  rfl
theorem run_sums {N : Nat} (hN : 1000 ≤ N) {K part : Int32} {r q e qp ep : Int} {b : Nat}
  (lpK : ∀ {m : Nat} {u : RS} {t : Nat} {P : RS → Prop}, tpI u = t → t < 1000 → u.i 15 = 0 → u.a 64 t = K → (¬ u.i 10 = 0 → ok ((f_X12_sums N u (u.i 63) part 1).bind fun p => f_X12_parse_10 N m p) P) → ok ((f_X12_sums N u (u.i 63) part 0).bind fun p => f_X12_parse_10 N m p) P → ok (f_X12_parse_10 N (m + 1) u) P)
  (hp : RUNE N part (r + 1) qp ep b) (hr5 : r ≤ 5) (hq0 : 0 ≤ qp) (hq : qp + 3 ≤ q) (he : e + 3 ≤ ep) (he0 : 0 ≤ e) (he4 : ep ≤ 40) : RUNE N K r q e b := by
  intro n s t P hI ht hK hS hb hc hn hF hC
  have hf := hI.1.f0
  have hop := hI.op
  have h9 : t < 998 := by omega
  have head : ∀ (c m : Nat) (w : RS), (900 - fr w).toNat = c → tpI w = t → w.a 64 t = K → (w.a 65 t = 1 ∧ PM t s w ∨ w.a 65 t = 2 ∧ INV w ∧ PM t s (EM w 8 (w.a 66 t))) → (n : Int) + 40 * fr s + e + 1 ≤ m + 40 * fr w → ok (f_X12_parse_10 N m w) P := by
    intro c
    induction c using Nat.strongRecOn with
    | ind c IH =>
      intro m w hcw tw kw hw hm
      have iw : INV w := by
        rcases hw with hw | hw
        · exact hw.2.1
        · exact hw.2.1
      have fw := iw.1.f0
      obtain ⟨m', rfl⟩ : ∃ m', m = m' + 1 := ⟨m - 1, by omega⟩
      have cw := iw.cd
      have push : ((m' + 1 : Nat) : Int) = (m' : Int) + 1 := by omega
      rw [push] at hm
      rcases hw with ⟨w1, w2⟩ | ⟨w1, w2, w3⟩
      · refine lpK tw (by omega) iw.2.2.1 kw (fun hz => ?_) ?_
        · rw [e_sums1 part 1 tw (by omega) w1]
          refine sums_tail hN hp h9 hI hb hc w2 (by omega) hF (fun m2 v v1 v2 v3 v4 v5 v6 v7 => ?_) hz
          exact IH (900 - fr v).toNat (by have := v4.1.f0; omega) m2 v rfl v1 (v2.trans kw) (Or.inr ⟨v3, v4, v5⟩) (by omega)
        · rw [e_sums1 part 0 tw (by omega) w1]
          unfold f_X12_sums_39
          rw [if_pos rfl]
          exact hC m' _ (w2.pop (by omega)) (by show (n : Int) + 40 * fr s + e ≤ m' + 40 * fr w; omega)
      · refine lpK tw (by omega) iw.2.2.1 kw (fun hz => ?_) ?_
        · rw [e_sums2 part 1 tw (by omega) w1 cw.1 cw.2.2]
          refine sums_tail (w := EM w 8 (w.a 66 t)) hN hp h9 hI hb hc w3 (by show 36000 + qp ≤ m' + 40 * fr w + 40; omega) hF (fun m2 v v1 v2 v3 v4 v5 v6 v7 => ?_) hz
          have v6 : fr w < fr v := v6
          have v7 : (m' : Int) + 40 * fr w + 40 + ep ≤ m2 + 40 * fr v := v7
          exact IH (900 - fr v).toNat (by have := v4.1.f0; omega) m2 v rfl v1 (v2.trans kw) (Or.inr ⟨v3, v4, v5⟩) (by omega)
        · rw [e_sums2 part 0 tw (by omega) w1 cw.1 cw.2.2]
          unfold f_X12_sums_39
          rw [if_pos rfl]
          exact hC m' _ (w3.pop (by omega)) (by show (n : Int) + 40 * fr s + e ≤ m' + 40 * fr w; omega)
  obtain ⟨n', rfl⟩ : ∃ n', n = n' + 1 := ⟨n - 1, by omega⟩
  have push : ((n' + 1 : Nat) : Int) = (n' : Int) + 1 := by omega
  rw [push] at hn head hC
  have go : ∀ x : Int32, ok ((f_X12_sums N s (s.i 63) part x).bind fun p => f_X12_parse_10 N n' p) P := fun x => by
    rw [e_sums0 part x ht (by omega) hS]
    show ok (f_X12_parse_10 N n' (TH s t 1 part)) P
    refine CALL hp hI ht (by omega) (by omega) hc (by omega) hF (fun m w hw hm => ?_)
    obtain ⟨v1, v2, v3, v4, v5, v6, v7, v8, v9, v10, v11, v12⟩ := hw
    exact head _ m w rfl v2 ((v12 64 (by omega) (by omega) (by omega)).trans hK) (Or.inl ⟨v11, v1, v2, v3, v4, v5, v6, v7, v8, v9, v10⟩) (by omega)
  exact lpK ht (by omega) hI.2.2.1 hK (fun _ => go 1) (go 0)
theorem run_term {N : Nat} (hN : 1000 ≤ N) {b : Nat} (hp : RUNE N 18 6 5 30 b) : RUNE N 17 5 8 27 b := by
  refine run_sums hN (fun h1 h2 h3 h4 h5 h6 => lp_17 h1 h2 h3 h4 (fun h => h5 (by rcases h with h | h | h <;> (rw [h]; decide))) h6) hp (by omega) (by omega) (by omega) (by omega) (by omega) (by omega)
theorem run_expr {N : Nat} (hN : 1000 ≤ N) {b : Nat} (hp : RUNE N 17 5 8 27 b) : RUNE N 16 4 11 24 b := by
  refine run_sums hN (fun h1 h2 h3 h4 h5 h6 => lp_16 h1 h2 h3 h4 (fun h => h5 (by rcases h with h | h <;> (rw [h]; decide))) h6) hp (by omega) (by omega) (by omega) (by omega) (by omega) (by omega)
