/-! reading: for: the update -/
theorem SNW.tbl {s u w : RS} (h : SNW s u) (hw : TBL u w) : SNW s w := by
  refine ⟨by have := h.1; have := hw.se; have := hw.sl; omega, fun y h1 h2 => ?_⟩
  rw [hw.g (by decide)]
  exact h.2 y h1 (by have := hw.se; omega)
theorem MF.step {t : Nat} {s u w : RS} (h : MF t s u) (i : INV w) (tb : TBL u w) (k : KP t u w) (h19 : w.i 19 = u.i 19) (h52 : w.i 52 = u.i 52) (tp : tpI w = tpI u) (hf : fr u ≤ fr w) (tk : tkI u ≤ tkI w) (tk2 : tkI w - tkI u ≤ fr w - fr u) : MF t s w := by
  obtain ⟨a1, a2, a3, a4, a5, a6, a7, a8, a9, a10⟩ := h
  exact ⟨i, tp.trans a2, a3.tr k (Nat.le_refl _), ⟨h19.trans a4.1, (tb.2.2 43 (by omega) (by omega) (by omega) (by omega)).trans a4.2.1, h52.trans a4.2.2.1, (tb.2.2 56 (by omega) (by omega) (by omega) (by omega)).trans a4.2.2.2⟩, a5.tbl tb, a6.tr (tb.rate hf tk2), by omega, by omega, by unfold op at *; rw [h19]; exact a9, fun j hj => by rw [tb.1 46 (by omega)]; exact a10 j hj⟩
theorem MF.lx {t : Nat} {s u w : RS} (h : MF t s u) (i : INV w) (x : LX u w) (h19 : w.i 19 = u.i 19) (hf : fr u + 1 ≤ fr w) (tk : tkI w = tkI u + 1) : MF t s w := h.step i x.tbl ((KP.rf t u).lx x) h19 (x.2.2.1 52 (by omega) (by omega)) x.tp (by omega) (by omega) (by omega)
theorem MF.loc {t : Nat} {s u : RS} (h : MF t s u) {k : Nat} (v : Int32) (h1 : 64 ≤ k) (h2 : k ≤ 73) : MF t s (u.setA k t v) := h.step (h.1.loc t v h1 h2) (TBL.loc u t v h1 h2) ((KP.rf t u).loc t v h1 h2 (Nat.le_refl _)) rfl rfl rfl (Int.le_refl _) (Int.le_refl _) (by show tkI u - tkI u ≤ fr u - fr u; omega)
theorem MF.em {t : Nat} {s u : RS} {o x : Int32} (hI : INV s) (h : MF t s u) (hc : cdI u + 1 - cdI s ≤ 3 * (fr u - fr s)) : MF t s (EM u o x) := by
  obtain ⟨a1, a2, a3, a4, a5, a6, a7, a8, a9, a10⟩ := h
  have cs := hI.2.2.2.2.2.1
  have c0 := hI.cd
  have cu := a1.cd
  exact ⟨a1.em (by omega), a2, a3.em c0.1 cu.2.2, a4, a5, a6.em cu.1 cu.2.2 hc, a7, a8, a9, a10⟩
theorem MF.pc {t : Nat} {st : Int32} {s u v : RS} (h : MF t s u) (hg : goI u = goI s) (hv : PC t st u v) : MF t s v := by
  obtain ⟨a1, a2, a3, a4, a5, a6, a7, a8, a9, a10⟩ := h
  obtain ⟨v1, v2, v3, v4, v5, v6, v7, v8, v9, v10, v11, v12⟩ := hv
  refine ⟨v1, v2, a3.tr v3 (Nat.le_refl _), ⟨v4.1.trans a4.1, v4.2.1.trans a4.2.1, v4.2.2.1.trans a4.2.2.1, v4.2.2.2.trans a4.2.2.2⟩, a5.tr (SNW.eq v5 v3.2.2.2.2.2.1.2.1) a3 v3, a6.tr v6, by omega, by omega, by have := v4.eOp; omega, fun j hj => (v10.1 j (by omega)).trans (a10 j hj)⟩
theorem MF.go {t : Nat} {s u : RS} (h : MF t s u) : goI u = goI s := by unfold goI; rw [h.2.2.2.1.2.1]
theorem TUP.nil {s u : RS} (h : TBL s u) : TUP s u := by
  intro f C hA hC h9 o v rs hx
  refine COD.nil (fun g _ hE => ?_)
  have := hE.2
  rw [h.cd] at this
  exact this
theorem TUP.inc {s u : RS} {x : Int32} (hI : INV s) (hcd : cdI u = cdI s + 1) (e21 : u.a 21 (cdI s).toNat = 6) (e22 : u.a 22 (cdI s).toNat = x) (hx : SLT s x) : TUP s u := by
  intro f C hA hC h o v rs hc
  have c0 := hI.cd
  obtain ⟨h1, h2⟩ := hx.ok hI
  have ek : ((cdI s).toNat : Int) = cdI s := Int.toNat_of_nonneg c0.1
  obtain ⟨g1, g2, g3, g4⟩ := hA.cell (k := (cdI s).toNat) (by omega) (by omega) e21 e22 (by decide)
  have c := COD.ins (E := fun g => ENB s u f g v rs ∧ FL f g v (cdI u) (cdI u) h o rs) (C := C) hc g4 (fun g _ hE => ?_)
  · rw [ek] at c
    exact c
  · obtain ⟨⟨q1, q2⟩, q3⟩ := hE
    rw [hcd, ← ek] at q3
    exact ⟨okJ_6 (c := (h, o, v, false, rs)) g1 ⟨by rw [g2]; exact h1, by rw [g2]; exact h2 g q2, q3⟩, q1 _ (by omega)⟩
theorem TUP.sto {t : Nat} {s R v u : RS} {x : Int32} (hI : INV s) (kR : KP t s R) (cR : cdI R = cdI s) (R38 : R.i 38 = s.i 38) (R52 : R.i 52 = s.i 52) (fR : fr s ≤ fr R) (te : TE R v) (k2 : KP t R v) (i2 : INV v) (d2 : v.i 52 = s.i 52) (f2 : fr R + 1 ≤ fr v) (k3 : KP t v u) (hg : goI u ≤ goI v) (cu : cdI u = cdI v + 1) (e21 : u.a 21 (cdI v).toNat = 5) (e22 : u.a 22 (cdI v).toNat = x) (hx : SLT s x) : TUP s u := by
  intro f C hA hC h o lv rs hc
  have c0 := hI.cd
  have cv := i2.cd
  have fv := i2.1.f0
  have le := k2.2.1.1
  obtain ⟨h1, h2⟩ := hx.ok hI
  have ek : ((cdI v).toNat : Int) = cdI v := Int.toNat_of_nonneg cv.1
  obtain ⟨A1, C1⟩ := AG.mid hA hC kR k2 k3 i2.tn hg
  have hx2 := hc.2.1
  have c1 := te f C A1 C1 h o lv rs (hc.up h R52 fR (by omega) (by omega))
  obtain ⟨g1, g2, g3, g4⟩ := hA.cell (k := (cdI v).toNat) (o := 5) (x := x) (by omega) (by omega) e21 e22 (by decide)
  have c3 : COD f C (cdI v).toNat (h + 1) o lv rs (fun g => ENB s u f g lv rs ∧ FL f g lv (cdI u) (cdI u) h o rs) := by
    refine COD.ins (hc.up (h + 1) d2 (by omega) fv.2 (by omega)) g4 (fun g _ hE => ?_)
    obtain ⟨⟨q1, q2⟩, q3⟩ := hE
    rw [cu, ← ek] at q3
    exact ⟨okJ_5 (c := (h + 1, o, lv, false, rs)) g1 ⟨by rw [g2]; exact h1, by rw [g2]; exact h2 g q2, by show 1 ≤ h + 1; omega, q3⟩, q1 _ (by omega)⟩
  rw [← cR]
  exact COD.seq c1.cod c3 (fun g _ hE => hE) (fun g _ hE hF => ⟨hE.1.mid kR R38 (by omega), by rw [ek] at hF; exact hF⟩)
theorem SLT.kp {t : Nat} {s R : RS} {x : Int32} (h : SLT R x) (e : R.i 38 = s.i 38) (hk : KP t s R) : SLT s x := by
  obtain ⟨j, j1, j2, j3⟩ := h
  have es : seI R = seI s := by unfold seI; rw [e]
  have ks := hk.2.2.2.2.2.1
  exact ⟨j, by omega, by rw [← ks.2.2.1 j (by omega)]; exact j2, by rw [← ks.2.2.2 j (by omega)]; exact j3⟩
