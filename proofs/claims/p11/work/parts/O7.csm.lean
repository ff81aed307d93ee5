/-! the class's reading: what a formula leaves as it was -/
def SMR (s R : CS) : Prop := (R.i 34 = s.i 34 ∧ R.i 38 = s.i 38 ∧ R.i 50 = s.i 50 ∧ R.i 53 = s.i 53 ∧ R.i 56 = s.i 56 ∧ R.i 22 = s.i 22 ∧ R.i 36 = s.i 36) ∧ RSQ s R (cnI s).toNat ∧ (∀ n : Nat, (n : Int) < nmI s → R.a 49 n = s.a 49 n) ∧ (∀ i : Nat, (i : Int) < ccI s → R.a 18 i = s.a 18 i ∧ R.a 19 i = s.a 19 i)
theorem SMR.rf (s : CS) : SMR s s := ⟨⟨rfl, rfl, rfl, rfl, rfl, rfl, rfl⟩, RSQ.rf s _, fun _ _ => rfl, fun _ _ => ⟨rfl, rfl⟩⟩
theorem SMR.tr {s R T : CS} (h : SMR s R) (g : SMR R T) : SMR s T := by
  obtain ⟨⟨a1, a2, a3, a4, a5, a6, a7⟩, b, c, d⟩ := h
  obtain ⟨⟨e1, e2, e3, e4, e5, e6, e7⟩, f, g2, k⟩ := g
  have ecn : cnI R = cnI s := by unfold cnI; rw [a4]
  have enm : nmI R = nmI s := by unfold nmI; rw [a3]
  have ecc : ccI R = ccI s := by unfold ccI; rw [a6]
  rw [ecn] at f
  rw [enm] at g2
  rw [ecc] at k
  exact ⟨⟨e1.trans a1, e2.trans a2, e3.trans a3, e4.trans a4, e5.trans a5, e6.trans a6, e7.trans a7⟩, b.tr f, fun n hn => (g2 n hn).trans (c n hn), fun i hi => ⟨(k i hi).1.trans (d i hi).1, (k i hi).2.trans (d i hi).2⟩⟩
theorem TS9.smr {s R : CS} (h : TS9 s R) (e34 : R.i 34 = s.i 34) : SMR s R := by
  obtain ⟨⟨a1, a2, a3, a4, a5, a6, a7, a8, a9, a10⟩, b⟩ := h
  exact ⟨⟨e34, b 38 (by omega) (by omega), b 50 (by omega) (by omega), b 53 (by omega) (by omega), b 56 (by omega) (by omega), b 22 (by omega) (by omega), b 36 (by omega) (by omega)⟩, fun i _ => ⟨by rw [a7], fun a _ => ⟨by rw [a4], by rw [a5]⟩⟩, fun _ _ => by rw [a10], fun _ _ => by rw [a10]; exact ⟨rfl, rfl⟩⟩
theorem ADV.smr {s R : CS} (h : ADV s R) : SMR s R := h.1.t9.smr (h.1.2 34 (by decide) (by decide) (by decide) (by decide))
theorem ADD.smr {s R : CS} {o x : Int32} (h : ADD s R o x) : SMR s R := by
  obtain ⟨⟨b1, b2, b3, b4, b5, b6, b7, b8, b9, b10⟩, b11, b12, b13, b14, b15⟩ := h
  exact ⟨⟨b11 34 (by decide), b11 38 (by decide), b11 50 (by decide), b11 53 (by decide), b11 56 (by decide), b11 22 (by decide), b11 36 (by decide)⟩, fun i _ => ⟨by rw [b7], fun a _ => ⟨by rw [b4], by rw [b5]⟩⟩, fun _ _ => by rw [b13 49 (by decide) (by decide)], fun _ _ => by rw [b13 18 (by decide) (by decide), b13 19 (by decide) (by decide)]; exact ⟨rfl, rfl⟩⟩
theorem NTG.smr {s R : CS} (h : NTG s R) : SMR s R := by
  obtain ⟨⟨b1, b2, b3, b4, b5, b6, b7, b8, b9, b10⟩, b11, b12, b13, b14⟩ := h
  exact ⟨⟨b11 34 (by decide), b11 38 (by decide), b11 50 (by decide), b11 53 (by decide), b11 56 (by decide), b11 22 (by decide), b11 36 (by decide)⟩, fun i _ => ⟨by rw [b7], fun a _ => ⟨by rw [b4], by rw [b5]⟩⟩, fun _ _ => by rw [b13 49 (by decide)], fun _ _ => by rw [b13 18 (by decide), b13 19 (by decide)]; exact ⟨rfl, rfl⟩⟩
theorem AIM.smr {s R : CS} {t : Int32} (h : AIM s R t) : SMR s R := by
  obtain ⟨⟨b1, b2, b3, b4, b5, b6, b7, b8, b9, b10⟩, b11, b13, b14⟩ := h
  exact ⟨⟨by rw [b11], by rw [b11], by rw [b11], by rw [b11], by rw [b11], by rw [b11], by rw [b11]⟩, fun i _ => ⟨by rw [b7], fun a _ => ⟨by rw [b4], by rw [b5]⟩⟩, fun _ _ => by rw [b13 49 (by decide)], fun _ _ => by rw [b13 18 (by decide), b13 19 (by decide)]; exact ⟨rfl, rfl⟩⟩
/-- the base under changes of code only -/
theorem CBS.of {H : HB} {s R : CS} (h : CBS H s) (q : R.hs = s.hs ∧ R.L = s.L ∧ R.k = s.k ∧ R.o = s.o ∧ R.ol = s.ol ∧ R.ot = s.ot ∧ R.r = s.r ∧ R.w = s.w ∧ R.b = s.b ∧ R.l = s.l) (ha : R.a 0 = s.a 0) (hi : ∀ j : Nat, j = 13 ∨ j = 14 ∨ j = 27 ∨ j = 32 ∨ j = 36 ∨ (41 ≤ j ∧ j ≤ 45) ∨ j = 50 ∨ j = 53 → R.i j = s.i j) (hA : s.i 32 = 0 → ∀ t : Nat, (t : Int) < tcI s → 0 ≤ (s.a 17 t).toInt → (t : Int) < tcI R ∧ 0 ≤ (R.a 17 t).toInt) : CBS H R := by
  obtain ⟨c1, c2, c3, c4, c5, c6, c7, c8, c9⟩ := h
  obtain ⟨a1, a2, a3, a4, a5, a6, a7, a8, a9, a10⟩ := q
  have enm : nmI R = nmI s := by unfold nmI; rw [hi 50 (by omega)]
  have ecn : cnI R = cnI s := by unfold cnI; rw [hi 53 (by omega)]
  refine ⟨?_, ?_, ?_, ?_, ?_, by rw [enm]; exact c6, ?_, ?_, ?_⟩
  · unfold REFS inP oK at *; rw [a1, a2, a3, a6, a7, a8]; exact c1
  · refine ⟨by have := c2.1; unfold ROOM at *; rw [a1, a7]; exact this, by rw [a7]; exact c2.2.1, fun q t ht => ?_⟩
    rw [hi 32 (by omega)] at q
    have z := c2.2.2 q t ht
    exact hA q t z.1 z.2
  · unfold LC AB BY at *
    rw [ha, hi 41 (by omega), hi 42 (by omega), hi 43 (by omega), hi 44 (by omega), hi 45 (by omega), a10]
    exact c3
  · unfold WDC at *; rw [a9]; exact c4
  · rw [hi 32 (by omega), hi 43 (by omega)]; exact c5
  · unfold NR at *; rw [ecn, a7]; exact c7
  · rw [a7, a4]; exact c8
  · rw [hi 36 (by omega), hi 14 (by omega), hi 13 (by omega), hi 27 (by omega)]; exact c9
theorem ADD.cb {H : HB} {s R : CS} {o x : Int32} (h : ADD s R o x) (hc : CBS H s) : CBS H R := hc.of h.1 (h.2.2.2.1 0 (by decide) (by decide)) (fun j hj => h.2.1 j (by omega)) (fun _ t t1 t2 => by
  have e : tcI R = tcI s := by unfold tcI; rw [h.2.1 21 (by decide)]
  rw [e, h.2.2.2.1 17 (by decide) (by decide)]
  exact ⟨t1, t2⟩)
theorem NTG.cb {H : HB} {s R : CS} (h : NTG s R) (hc : CBS H s) (hb : s.i 32 = 0 → 0 ≤ tcI s ∧ tcI s ≤ 1020) : CBS H R := hc.of h.1 (h.2.2.2.1 0 (by decide)) (fun j hj => h.2.1 j (by omega)) (fun q t t1 t2 => by
  have e1 : (1 : Int32).toInt = 1 := by decide
  have b := hb q
  have b' : 0 ≤ (s.i 21).toInt ∧ (s.i 21).toInt ≤ 1020 := b
  have e : tcI R = tcI s + 1 := by
    show (R.i 21).toInt = (s.i 21).toInt + 1
    rw [h.2.2.1, toInt_add] <;> rw [e1] <;> omega
  have e17 : R.a 17 t = s.a 17 t := by
    rw [h.2.2.2.2]
    exact gPut_ne (by show (t : Int) ≠ tcI s; omega)
  rw [e, e17]
  exact ⟨by omega, t2⟩)
theorem AIM.cb {H : HB} {s R : CS} {t : Int32} (h : AIM s R t) (hc : CBS H s) (hb : s.i 32 = 0 → 0 ≤ szI s) : CBS H R := hc.of h.1 (h.2.2.1 0 (by decide)) (fun j hj => by rw [h.2.1]) (fun q k k1 k2 => by
  have e : tcI R = tcI s := by unfold tcI; rw [h.2.1]
  rw [e, h.2.2.2]
  refine ⟨k1, ?_⟩
  unfold gPut
  by_cases c : ib t 1024
  · rw [if_pos c]
    show 0 ≤ (if k = t.toNatClampNeg then s.i 20 else s.a 17 k).toInt
    by_cases c2 : k = t.toNatClampNeg
    · rw [if_pos c2]; exact hb q
    · rw [if_neg c2]; exact k2
  · rw [if_neg c]; exact k2)
/-- numbers under changes of code only -/
theorem NB.of {x y x' y' : Int} {c : List Nat} {s R : CS} (hn : NB x y c s) (n0 : 0 ≤ cnI s) (nr : NR s (cnI s).toNat) (hs : SMR s R) (hr : R.r 51 = s.r 51) (ho : R.o = s.o) (hi : R.i 43 = s.i 43 ∧ R.i 44 = s.i 44) (hx : szI R + x ≤ szI s + x') (hy : tcI R + y ≤ tcI s + y') : NB x' y' c R := by
  obtain ⟨⟨a1, a2, a3, a4, a5, a6, a7⟩, b, -, -⟩ := hs
  obtain ⟨c1, c2, c3, c4, c5, c6, c7, c8, c9⟩ := hn
  have ecn : cnI R = cnI s := by unfold cnI; rw [a4]
  have ecc : ccI R = ccI s := by unfold ccI; rw [a6]
  have eds : dsI R = dsI s := by unfold dsI; rw [a2]
  have esg : sgI R = sgI s := by unfold sgI; rw [a1]
  have epl : plI R = plI s := by unfold plI; rw [hi.2]
  have ee : eI R = eI s := by unfold eI; rw [epl, hi.1]
  obtain ⟨i1, i2, i3, i4, i5⟩ := b.sums nr
  refine ⟨by omega, by omega, by omega, by rw [esg]; exact c4, by rw [ecn]; exact c5.of b nr, by rw [ecn, i1, ee]; exact c6, by rw [ecn, i2, esg]; exact c7, by rw [eds]; exact c8, by rw [a5, ecn, hr, ho]; exact c9⟩
theorem NB.sz {x y : Int} {c : List Nat} {s : CS} (hn : NB x y c s) (hl : LC s) (n0 : 0 ≤ cnI s) (hx : x ≤ 10000) (hy : y ≤ 100) : szI s ≤ 200000 ∧ tcI s ≤ 1010 := by
  have h1 := hn.2.2.1
  have h2 := hn.1
  have h3 := hn.2.1.1
  have e := eI.ge s
  have p : plI s ≤ 900 := by
    have a := hl.2.1
    have b := hl.1
    unfold plI
    omega
  omega
/-- an instruction that falls through or jumps to what is known -/
theorem JJ.add {H : HB} {x y : Int} {c : List Nat} {X : List (Nat × List Nat)} {P : List Nat} {lim : List Int} {s R : CS} {o v : Int32} (h : JJ H x y c X P lim s) (ha : ADD s R o v) (hx : x ≤ 10000) (hy : y ≤ 100) (hI : s.i 32 = 0 → ∀ (DT : Nat → List Nat) (KT : Nat → Prop), (∀ q ∈ X, (q.1 : Int) < tcI s ∧ DT q.1 = q.2 ∧ ¬ KT q.1) → (∀ n : Nat, (n : Int) = cnI s → RCH s DT KT n c lim) → (∀ n : Nat, (n : Int) < nmI s → NMT (s.a 49 n) c) → IOK (tcI s) DT KT o v c c) : JJ H (x + 1) y c X P lim R := by
  obtain ⟨h1, h2⟩ := h
  have sm := ha.smr
  obtain ⟨⟨b1, b2, b3, b4, b5, b6, b7, b8, b9, b10⟩, b11, b12, b13, b14, b15⟩ := (show ADD s R o v from ha)
  refine ⟨ha.cb h1, fun q => ?_⟩
  have q' : s.i 32 = 0 := (b11 32 (by decide)).symm.trans q
  obtain ⟨g, n⟩ := h2 q'
  have sz := n.sz h1.2.2.1 h1.2.2.2.2.2.2.1.1 hx hy
  refine ⟨g.add h1.1 ha (by omega) n.2.2.2.2.2.2.2.1.2 (hI q'), n.of h1.2.2.2.2.2.2.1.1 h1.2.2.2.2.2.2.1.2.2 sm (by rw [b7]) b4 ⟨b11 43 (by decide), b11 44 (by decide)⟩ ?_ ?_⟩
  · obtain ⟨D, DT, KT, -, -, -, g4, -⟩ := g
    have e1 : (1 : Int32).toInt = 1 := by decide
    have g4' : 0 ≤ (s.i 20).toInt := g4.1
    have s0 : (s.i 20).toInt ≤ 200000 := sz.1
    have esz : szI R = szI s + 1 := by
      show (R.i 20).toInt = (s.i 20).toInt + 1
      rw [b12, toInt_add] <;> rw [e1] <;> omega
    omega
  · have : tcI R = tcI s := by unfold tcI; rw [b11 21 (by decide)]
    omega
/-- one that just falls through -/
theorem IOK.fall {tc : Int} {DT : Nat → List Nat} {KT : Nat → Prop} {o x : Int32} {c : List Nat} (h : o.toInt < 30 ∨ (36 ≤ o.toInt ∧ o.toInt < 50) ∨ o.toInt = 51 ∨ o.toInt = 52 ∨ o.toInt = 55 ∨ o.toInt = 57) : IOK tc DT KT o x c c := ⟨fun _ => rfl, fun q => by omega, fun q r => by omega, fun _ _ => rfl, fun _ => rfl, fun q => by omega, fun q => by omega, fun q => by omega, fun q => by omega, fun q => by omega, fun q => by omega, fun q => by omega, by omega⟩
