/-! reading: emit, holes, frames -/
def EM (u : RS) (o x : Int32) : RS := (((u.setA 21 (cdI u).toNat o).setA 22 (cdI u).toNat x).setA 23 (cdI u).toNat 0).setI 20 (u.i 20 + 1)
theorem p_em {N : Nat} {u : RS} (o x : Int32) (h0 : 0 ≤ cdI u) (h3 : cdI u < 3000) : f_X12_emit N u o x = some (u.i 20, EM u o x) := by
  have a : 0 ≤ u.i 20 := by
    rw [Int32.le_iff_toInt_le, z_t0]; exact h0
  have b : u.i 20 < 3000 := by
    rw [Int32.lt_iff_toInt_lt]
    have e : (3000 : Int32).toInt = 3000 := by decide
    rw [e]; exact h3
  exact e_emit a b
theorem EM.cd {u : RS} {o x : Int32} (h0 : 0 ≤ cdI u) (h3 : cdI u < 3000) : cdI (EM u o x) = cdI u + 1 := by
  have e1 : (1 : Int32).toInt = 1 := by decide
  have h0 : 0 ≤ (u.i 20).toInt := h0
  have h3 : (u.i 20).toInt < 3000 := h3
  show (u.i 20 + 1).toInt = (u.i 20).toInt + 1
  rw [toInt_add] <;> rw [e1] <;> omega
theorem EM.i {u : RS} {o x : Int32} {j : Nat} (hj : j ≠ 20) : (EM u o x).i j = u.i j := if_neg hj
theorem EM.a {u : RS} {o x : Int32} {k : Nat} (h1 : k ≠ 21) (h2 : k ≠ 22) (h3 : k ≠ 23) : (EM u o x).a k = u.a k := (if_neg h3).trans ((if_neg h2).trans (if_neg h1))
theorem EM.a21 {u : RS} {o x : Int32} (j : Nat) : (EM u o x).a 21 j = if j = (cdI u).toNat then o else u.a 21 j := rfl
theorem EM.a22 {u : RS} {o x : Int32} (j : Nat) : (EM u o x).a 22 j = if j = (cdI u).toNat then x else u.a 22 j := rfl
theorem EM.a23 {u : RS} {o x : Int32} (j : Nat) : (EM u o x).a 23 j = if j = (cdI u).toNat then 0 else u.a 23 j := rfl
theorem ISCH.em {u : RS} {o x : Int32} {h : Int} {L : List Nat} (h0 : 0 ≤ cdI u) (hi : ISCH u h L) (hL : ∀ y ∈ L, (y : Int) < cdI u) : ISCH (EM u o x) h L := hi.of (fun y hy => by
  have := hL y hy
  exact ⟨by rw [EM.a21, if_neg (by omega)], by rw [EM.a22, if_neg (by omega)]⟩)
theorem EM.hd {u : RS} {o x : Int32} (b : Bool) (γ : Nat) : hd (EM u o x) b γ = hd u b γ := by cases b <;> rfl
theorem KP.em {t : Nat} {s u : RS} {o x : Int32} (h : KP t s u) (hs : 0 ≤ cdI s) (h3 : cdI u < 3000) : KP t s (EM u o x) := by
  obtain ⟨⟨a1, a1'⟩, a2, a3, a4, a5, a6, a7, a8, a9, a10, a11⟩ := h
  have h0 : 0 ≤ cdI u := by have := a2.1; omega
  have ec := EM.cd (o := o) (x := x) h0 h3
  refine ⟨⟨⟨fun j hj => (EM.i (by omega)).trans (a1.1 j hj), fun k hk => (EM.a (by omega) (by omega) (by omega)).trans (a1.2.1 k hk), a1.2.2⟩, a1'⟩, ⟨by have := a2.1; omega, fun j hj => ?_, fun j hj => ?_, fun j hj => ?_⟩, a3, a4, a5, a6, a7, fun γ b L hγ hI hL => ?_, a9, a10, fun k k1 k2 j hj => by rw [EM.a (by omega) (by omega) (by omega)]; exact a11 k k1 k2 j hj⟩
  · rw [EM.a21, if_neg (by have := a2.1; omega)]; exact a2.2.1 j hj
  · rw [EM.a22, if_neg (by have := a2.1; omega)]; exact a2.2.2.1 j hj
  · rw [EM.a23, if_neg (by have := a2.1; omega)]; exact a2.2.2.2 j hj
  · obtain ⟨L1, c1, c2⟩ := a8 γ b L hγ hI hL
    refine ⟨L1, ?_, fun y hy => by have := c2 y hy; omega⟩
    rw [EM.hd]
    refine c1.em h0 (fun y hy => ?_)
    rcases List.mem_append.mp hy with hy | hy
    · exact (c2 y hy).2
    · have := hL y hy; have := a2.1; omega
theorem TAB.em {u : RS} {o x : Int32} (h : TAB u) (h0 : 0 ≤ cdI u) (h3 : cdI u < 3000) : TAB (EM u o x) := by
  refine ⟨⟨fun γ b hγ => ?_, DJ.of h.1.1 h.1.2.1 (Int.le_refl _) (fun γ b L _ h1 h2 => by rw [EM.hd]; exact h1.em h0 h2), h.1.2.2⟩, h.2⟩
  obtain ⟨L, l1, l2⟩ := h.1.1 γ b hγ
  refine ⟨L, ?_, fun y hy => by have := l2 y hy; rw [EM.cd h0 h3]; omega⟩
  rw [EM.hd]
  exact l1.em h0 l2
theorem LXI.em {u : RS} {o x : Int32} (h : LXI u) : LXI (EM u o x) := h
/-- a jump's place is filled -/
theorem ISCH.hole {u : RS} {k : Nat} {x : Int32} {h : Int} {L : List Nat} (ho : ¬ u.a 21 k = 36) (hi : ISCH u h L) : ISCH (u.setA 22 k x) h L := hi.of (fun y hy => ⟨rfl, by
  show (if y = k then x else u.a 22 y) = _
  rw [if_neg (fun e => ho (by rw [← e]; exact hi.op y hy))]⟩)
theorem KP.hole {t : Nat} {s u : RS} {k : Nat} {x : Int32} (h : KP t s u) (hk : cdI s ≤ k) (ho : ¬ u.a 21 k = 36) : KP t s (u.setA 22 k x) := by
  obtain ⟨⟨a1, a1'⟩, a2, a3, a4, a5, a6, a7, a8, a9, a10, a11⟩ := h
  refine ⟨⟨⟨a1.1, fun j hj => (if_neg (by omega)).trans (a1.2.1 j hj), a1.2.2⟩, a1'⟩, ⟨a2.1, a2.2.1, fun j hj => ?_, a2.2.2.2⟩, a3, a4, a5, a6, a7, fun γ b L hγ hI hL => ?_, a9, a10, fun k9 k1 k2 j hj => (congrFun (if_neg (by omega)) j).trans (a11 k9 k1 k2 j hj)⟩
  · show (if j = k then x else u.a 22 j) = _
    rw [if_neg (by omega)]; exact a2.2.2.1 j hj
  · obtain ⟨L1, c1, c2⟩ := a8 γ b L hγ hI hL
    exact ⟨L1, by cases b <;> exact c1.hole ho, c2⟩
theorem TAB.hole {u : RS} {k : Nat} {x : Int32} (h : TAB u) (ho : ¬ u.a 21 k = 36) : TAB (u.setA 22 k x) := by
  refine ⟨⟨fun γ b hγ => ?_, DJ.of h.1.1 h.1.2.1 (Int.le_refl _) (fun γ b L _ h1 h2 => by cases b <;> exact h1.hole ho), h.1.2.2⟩, h.2⟩
  obtain ⟨L, l1, l2⟩ := h.1.1 γ b hγ
  exact ⟨L, by cases b <;> exact l1.hole ho, l2⟩
theorem KP.lo {t t' : Nat} {s u : RS} (h : KP t s u) (ht : t' ≤ t) : KP t' s u := by
  obtain ⟨a1, a2, a3, a4, a5, a6, a7, a8, a9, a10, a11⟩ := h
  exact ⟨a1, a2, a3, a4, a5, a6, a7, a8, a9, a10, fun k k1 k2 j hj => a11 k k1 k2 j (by omega)⟩
/-- a frame more -/
def TH (u : RS) (t : Nat) (st k : Int32) : RS := (((u.setA 65 t st).setI 63 (u.i 63 + 1)).setA 64 (t + 1) k).setA 65 (t + 1) 0
theorem tp_nat {u : RS} {t : Nat} (h : tpI u = t) : (u.i 63).toNatClampNeg = t := by
  show (u.i 63).toInt.toNat = t
  rw [show (u.i 63).toInt = (t : Int) from h]; exact Int.toNat_natCast _
theorem tp_ib {u : RS} {t : Nat} (h : tpI u = t) (h9 : t < 1000) : ib (u.i 63) 1000 := by
  have h : (u.i 63).toInt = (t : Int) := h
  exact ⟨by omega, by omega⟩
theorem tp_add {u : RS} {t : Nat} (h : tpI u = t) (h9 : t < 1000) : (u.i 63 + 1).toInt = (t : Int) + 1 := by
  have h : (u.i 63).toInt = (t : Int) := h
  have e1 : (1 : Int32).toInt = 1 := by decide
  rw [toInt_add] <;> rw [e1] <;> omega
theorem tp_sub {u : RS} {t : Nat} (h : tpI u = t) (h9 : t < 1000) : (u.i 63 - 1).toInt = (t : Int) - 1 := by
  have h : (u.i 63).toInt = (t : Int) := h
  have e1 : (1 : Int32).toInt = 1 := by decide
  rw [toInt_sub] <;> rw [e1] <;> omega
theorem p_th {N : Nat} {u : RS} {t : Nat} (st k : Int32) (h : tpI u = t) (h9 : t < 999) : f_X12_then N u st k = some (TH u t st k) := by
  unfold f_X12_then f_X12_push
  have ha := tp_add h (by omega)
  have en : (u.i 63 + 1).toNatClampNeg = t + 1 := by
    show (u.i 63 + 1).toInt.toNat = t + 1
    rw [ha]; omega
  rw [if_pos (tp_ib h (by omega))]
  show ((if ib (u.i 63 + 1) 1000 then _ else none) : Option RS).bind _ = _
  rw [if_pos ⟨by rw [ha]; omega, by rw [ha]; omega⟩]
  show some ((((u.setA 65 (u.i 63).toNatClampNeg st).setI 63 (u.i 63 + 1)).setA 64 (u.i 63 + 1).toNatClampNeg k).setA 65 (u.i 63 + 1).toNatClampNeg 0) = _
  rw [en, tp_nat h]
  rfl
theorem TH.tbl (u : RS) (t : Nat) (st k : Int32) : TBL u (TH u t st k) := ⟨fun k9 hk => (if_neg (by omega)).trans ((if_neg (by omega)).trans (if_neg (by omega))), rfl, fun j _ _ h _ => if_neg h⟩
theorem TH.tp {u : RS} {t : Nat} {st k : Int32} (h : tpI u = t) (h9 : t < 1000) : tpI (TH u t st k) = ((t + 1 : Nat) : Int) := by
  show (u.i 63 + 1).toInt = _
  rw [tp_add h h9]; omega
theorem TH.fk {u : RS} {t : Nat} {st k : Int32} : (TH u t st k).a 64 (t + 1) = k := if_pos rfl
theorem TH.fs {u : RS} {t : Nat} {st k : Int32} : (TH u t st k).a 65 (t + 1) = 0 := if_pos rfl
theorem TH.st {u : RS} {t : Nat} {st k : Int32} : (TH u t st k).a 65 t = st := by
  show (if t = t + 1 then 0 else if t = t then st else u.a 65 t) = st
  rw [if_neg (by omega), if_pos rfl]
theorem TH.fk0 {u : RS} {t : Nat} {st k : Int32} {j : Nat} (h : j ≤ t) : (TH u t st k).a 64 j = u.a 64 j := by
  show (if j = t + 1 then k else u.a 64 j) = _
  rw [if_neg (by omega)]
theorem TH.loc {u : RS} {t : Nat} {st k : Int32} {k9 : Nat} (h1 : k9 ≠ 64) (h2 : k9 ≠ 65) : (TH u t st k).a k9 = u.a k9 := (if_neg h2).trans ((if_neg h1).trans (if_neg h2))
theorem TH.bel (u : RS) (t : Nat) (st k : Int32) : ∀ k9 : Nat, 64 ≤ k9 → k9 ≤ 73 → bel k9 t u (TH u t st k) := by
  intro k9 _ _ j hj
  show (if k9 = 65 then upd _ (t + 1) 0 else if k9 = 64 then upd _ (t + 1) k else if k9 = 65 then _ else u.a k9) j = u.a k9 j
  by_cases c5 : k9 = 65
  · rw [if_pos c5]; subst c5
    show (if j = t + 1 then 0 else if j = t then st else u.a 65 j) = _
    rw [if_neg (by omega), if_neg (by omega)]
  · rw [if_neg c5]
    by_cases c4 : k9 = 64
    · rw [if_pos c4]; subst c4
      show (if j = t + 1 then k else u.a 64 j) = _
      rw [if_neg (by omega)]
    · rw [if_neg c4, if_neg c5]
theorem KP.th {t0 t : Nat} {s u : RS} {st k : Int32} (h : KP t0 s u) (ht : t0 ≤ t) : KP t0 s (TH u t st k) := h.tbl (TH.tbl u t st k) id (fun k9 k1 k2 j hj => TH.bel u t st k k9 k1 k2 j (by omega))
theorem INV.tbl {u w : RS} (h : INV u) (hw : TBL u w) (hl : LXI w) (h15 : w.i 15 = 0) (h19 : w.i 19 = u.i 19) (h52 : w.i 52 = u.i 52) (h75 : w.i 75 = 0 ∨ w.i 75 = 1) (hf : fr u ≤ fr w) (htk : 0 ≤ tkI w ∧ tkI w ≤ fr w + 1) : INV w := by
  obtain ⟨a1, a2, a3, a4, a5⟩ := h
  have e52 : deI w = deI u := by unfold deI; rw [h52]
  have e19 : op w = op u := by unfold op; rw [h19]
  refine ⟨hl, RB.of (hw.2.2 2 (by omega) (by omega) (by omega) (by omega)) (hw.2.2 3 (by omega) (by omega) (by omega) (by omega)) (hw.1 4 (by omega)) (hw.1 6 (by omega)) (hw.1 7 (by omega)) a2, h15, a4.tbl hw (fun γ hγ => by rw [e52]; exact (a4.2.2.2.2.2.2.1 γ hγ).2) h75, ?_⟩
  obtain ⟨b1, b2, b3, b4, b5, b6, b7, b8, b9, b10, b11, b12⟩ := a5
  unfold NUM
  rw [e19, e52, hw.cd, hw.en, hw.tt, hw.ca, hw.se, hw.sl, hw.go, hw.wa, hw.pe]
  refine ⟨b1, ⟨b2.1, by omega⟩, ⟨b3.1, by omega⟩, ⟨b4.1, by omega⟩, ⟨b5.1, by omega⟩, b6, by omega, ⟨b8.1, by omega⟩, ⟨b9.1, by omega⟩, b10, ⟨b11.1, by omega⟩, htk⟩
theorem INV.th {u : RS} {t : Nat} {st k : Int32} (h : INV u) : INV (TH u t st k) := h.tbl (TH.tbl u t st k) h.1 h.2.2.1 rfl rfl h.2.2.2.1.2.2.2.2.2.2.2.2.2 (Int.le_refl _) h.2.2.2.2.2.2.2.2.2.2.2.2.2.2.2
theorem TE.tbl {s u : RS} {s' u' : RS} (h : TE s u) (hs : TBL s s') (hu : TBL u u') (hd : s'.i 52 = s.i 52) (hf : fr s' = fr s) : TE s' u' := by
  intro f C hA hC h9 o v rs hx
  have hOPN : ∀ k : Nat, OPN u' k → OPN u k := fun k ⟨γ, b, L, x1, x2, x3⟩ => ⟨γ, b, L, by rw [hu.go] at x1; exact x1, by
    rw [hu.hd] at x2
    exact x2.of (fun y _ => ⟨by rw [hu.1 21 (by omega)], by rw [hu.1 22 (by omega)]⟩), x3⟩
  have hA' : AG0 s u f := by
    obtain ⟨a1, a2, a3, a4, a5, a6, a7, a8⟩ := hA
    rw [hu.cd] at a1
    rw [hu.en] at a2
    rw [hu.tt] at a3
    rw [hu.2.2 3 (by omega) (by omega) (by omega) (by omega)] at a4
    rw [hu.cd, hs.cd, hu.1 21 (by omega), hu.1 22 (by omega), hu.1 23 (by omega)] at a5
    rw [hu.en, hs.en, hu.1 26 (by omega), hu.1 27 (by omega), hu.1 28 (by omega)] at a6
    rw [hu.tt, hs.tt, hu.1 30 (by omega), hu.1 31 (by omega), hu.1 32 (by omega)] at a7
    rw [hu.ca, hs.ca, hu.1 35 (by omega), hu.1 36 (by omega), hu.1 37 (by omega)] at a8
    exact ⟨a1, a2, a3, a4, fun k k1 k2 => ⟨(a5 k k1 k2).1, (a5 k k1 k2).2.1, fun q => (a5 k k1 k2).2.2 (fun z => q (hOPN k z))⟩, a6, a7, a8⟩
  have hC' : AGC s u C := by
    intro x x1 x2
    have := hC x (by rw [hs.sl]; exact x1) (by rw [hu.sl]; exact x2)
    rw [this, hs.ca, hu.ca]
    constructor
    · rintro ⟨j, j1, j2, j3⟩; exact ⟨j, j1, j2, by rw [← j3, hu.g (by decide)]⟩
    · rintro ⟨j, j1, j2, j3⟩; exact ⟨j, j1, j2, by rw [← j3, hu.g (by decide)]⟩
  have hde : deI s' = deI s := by unfold deI; rw [hd]
  have hx' : CX s h9 o v rs := by
    obtain ⟨c1, c2, c3, c4, c5, c6, c7, c8⟩ := hx
    rw [hf] at c2 c3 c4 c5 c7
    rw [hde] at c1 c8
    exact ⟨c1, c2, c3, c4, c5, c6, c7, c8⟩
  have := h f C hA' hC' h9 o v rs hx'
  rw [hs.cd]
  refine this.imp (fun g _ hE => ?_)
  obtain ⟨⟨e1, e2⟩, e3⟩ := hE
  rw [hu.cd] at e1 e3
  refine ⟨⟨e1, fun x hx => ?_⟩, e3⟩
  have := e2 x (by rw [hs.se]; exact hx)
  rw [hs.g (by decide), hs.1 41 (by omega)] at this
  exact this
