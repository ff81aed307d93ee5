section
/-! the class's reading: what a statement leaves as it was -/
/-- from s to R: p bytes at least, g more in e, d more signs begun -/
def SX (p g d : Int) (s R : CS) : Prop := s.i 32 = 0 ∧ (plI s + p ≤ plI R ∧ eI s + g ≤ eI R) ∧ sgI R = sgI s + d ∧ (R.i 38 = s.i 38 ∧ R.i 53 = s.i 53 ∧ R.i 56 = s.i 56 ∧ R.i 22 = s.i 22) ∧ nmI s ≤ nmI R ∧ RSQ s R (cnI s).toNat ∧ (∀ n : Nat, (n : Int) < nmI s → R.a 49 n = s.a 49 n) ∧ (∀ i : Nat, (i : Int) < ccI s → R.a 18 i = s.a 18 i ∧ R.a 19 i = s.a 19 i)
theorem SX.rf {s : CS} (h : s.i 32 = 0) : SX 0 0 0 s s := ⟨h, by omega, by omega, ⟨rfl, rfl, rfl, rfl⟩, Int.le_refl _, RSQ.rf s _, fun _ _ => rfl, fun _ _ => ⟨rfl, rfl⟩⟩
theorem SX.tr {p g d p' g' d' : Int} {s R T : CS} (h : SX p g d s R) (k : SX p' g' d' R T) : SX (p + p') (g + g') (d + d') s T := by
  obtain ⟨a0, ⟨a1, a2⟩, a3, ⟨a4, a5, a6, a7⟩, a8, a9, a10, a11⟩ := h
  obtain ⟨b0, ⟨b1, b2⟩, b3, ⟨b4, b5, b6, b7⟩, b8, b9, b10, b11⟩ := k
  have ecn : cnI R = cnI s := by unfold cnI; rw [a5]
  have ecc : ccI R = ccI s := by unfold ccI; rw [a7]
  rw [ecn] at b9
  rw [ecc] at b11
  exact ⟨a0, ⟨by omega, by omega⟩, by omega, ⟨b4.trans a4, b5.trans a5, b6.trans a6, b7.trans a7⟩, by omega, a9.tr b9, fun n hn => (b10 n (by omega)).trans (a10 n hn), fun i hi => ⟨(b11 i hi).1.trans (a11 i hi).1, (b11 i hi).2.trans (a11 i hi).2⟩⟩
theorem SX.w {p g d p' g' d' : Int} {s R : CS} (h : SX p g d s R) (hp : p' ≤ p) (hg : g' ≤ g) (hd : d' = d) : SX p' g' d' s R := by
  obtain ⟨a0, ⟨a1, a2⟩, a3, a4⟩ := h
  exact ⟨a0, ⟨by omega, by omega⟩, by omega, a4⟩
theorem SMX.sx {p g d : Int} {s R : CS} (h : SMX s R) (nf : s.i 32 = 0) (hp : plI s + p ≤ plI R ∧ eI s + g ≤ eI R) (hd : sgI R = sgI s + d) : SX p g d s R := ⟨nf, hp, hd, ⟨h.1.1, h.1.2.2.1, h.1.2.2.2.1, h.1.2.2.2.2.1⟩, by unfold nmI; rw [h.1.2.1]; exact Int.le_refl _, h.2.1, h.2.2.1, h.2.2.2⟩
theorem SMR.sx {p g : Int} {s R : CS} (h : SMR s R) (nf : s.i 32 = 0) (hp : plI s + p ≤ plI R ∧ eI s + g ≤ eI R) : SX p g 0 s R := h.x.sx nf hp (by unfold sgI; rw [h.1.1]; omega)
theorem EXR.sx {s R : CS} (h : EXR s R) : SX 1 0 0 s R := h.2.2.sx h.1 ⟨h.2.1.1, by have := h.2.1.2; omega⟩
theorem MOV.sx {d : Int} {s R : CS} (h : MOV d s R) : SX 1 0 d s R := h.2.2.2.sx h.1 ⟨h.2.1.1, by have := h.2.1.2; omega⟩ h.2.2.1
theorem ADD.sx {s R : CS} {o x : Int32} (h : ADD s R o x) (nf : s.i 32 = 0) : SX 0 0 0 s R := h.smr.sx nf (by have := h.pl; omega)
theorem NTG.sx {s R : CS} (h : NTG s R) (nf : s.i 32 = 0) : SX 0 0 0 s R := h.smr.sx nf (by have := h.f; omega)
theorem AIM.sx {s R : CS} {t : Int32} (h : AIM s R t) (nf : s.i 32 = 0) : SX 0 0 0 s R := h.smr.sx nf (by have := h.f; omega)
/-- a word is taken -/
theorem ADV.wd {s R : CS} (h : ADV s R) (hl : LC s) (hw : 200 ≤ (s.i 43).toInt ∨ (3 ≤ (s.i 43).toInt ∧ (s.i 43).toInt ≤ 5)) : plI s + 2 ≤ plI R ∧ eI s + 3 ≤ eI R := by
  have gn := h.gain hl
  have g5 := gn.2.2.2.2.1 hw
  have e : eI s = plI s := eI.al (by unfold ALN; omega)
  omega
/-- any token is taken -/
theorem ADV.tk1 {s R : CS} (h : ADV s R) (hl : LC s) (h0 : ¬ s.i 43 = 0) : plI s + 1 ≤ plI R ∧ eI s ≤ eI R := (h.gain hl).2.1 h0
/-- fields that nothing here looks at -/
def IRJ (j : Nat) : Prop := (23 ≤ j ∧ j ≤ 27) ∨ j = 36 ∨ j = 37 ∨ j = 54 ∨ j = 55
def IRR (s R : CS) : Prop := (R.hs = s.hs ∧ R.L = s.L ∧ R.k = s.k ∧ R.o = s.o ∧ R.ol = s.ol ∧ R.ot = s.ot ∧ R.r = s.r ∧ R.w = s.w ∧ R.b = s.b ∧ R.l = s.l) ∧ (∀ j : Nat, ¬ IRJ j → R.i j = s.i j) ∧ (∀ k : Nat, k ≠ 52 → R.a k = s.a k) ∧ bo (R.i 36) ∧ bo (R.i 27)
theorem IRR.rf {H : HB} {s : CS} (h : CBS H s) : IRR s s := ⟨⟨rfl, rfl, rfl, rfl, rfl, rfl, rfl, rfl, rfl, rfl⟩, fun _ _ => rfl, fun _ _ => rfl, h.2.2.2.2.2.2.2.2.1, h.2.2.2.2.2.2.2.2.2.2⟩
theorem IRR.i {s R : CS} (h : IRR s R) (k : Nat) (v : Int32) (hk : IRJ k) (hb : k = 36 ∨ k = 27 → bo v) : IRR s (CS.setI R k v) := by
  obtain ⟨⟨a1, a2, a3, a4, a5, a6, a7, a8, a9, a10⟩, b, c, d, e⟩ := h
  have one : ∀ j : Nat, j = 36 ∨ j = 27 → bo (R.i j) → bo ((CS.setI R k v).i j) := fun j hj hv => by
    by_cases q : j = k
    · rw [q, ci_at]; exact hb (by rw [← q]; exact hj)
    · rw [ci_ne _ _ _ q]; exact hv
  exact ⟨⟨(chs_setI ..).trans a1, (cL_setI ..).trans a2, (ck_setI ..).trans a3, (co_setI ..).trans a4, (col_setI ..).trans a5, (cot_setI ..).trans a6, (cr_setI ..).trans a7, (cw_setI ..).trans a8, (cb_setI ..).trans a9, (cl_setI ..).trans a10⟩, fun j hj => (ci_ne _ _ _ (fun q => hj (by rw [q]; exact hk))).trans (b j hj), fun j hj => by rw [ca_setI]; exact c j hj, one 36 (Or.inl rfl) d, one 27 (Or.inr rfl) e⟩
theorem IRR.a {s R : CS} (h : IRR s R) (f : Nat → Int32) : IRR s (CS.putA R 52 f) := by
  obtain ⟨⟨a1, a2, a3, a4, a5, a6, a7, a8, a9, a10⟩, b, c, d, e⟩ := h
  exact ⟨⟨(chs_putA ..).trans a1, (cL_putA ..).trans a2, (ck_putA ..).trans a3, (co_putA ..).trans a4, (col_putA ..).trans a5, (cot_putA ..).trans a6, (cr_putA ..).trans a7, (cw_putA ..).trans a8, (cb_putA ..).trans a9, (cl_putA ..).trans a10⟩, fun j hj => by rw [ci_putA]; exact b j hj, fun j hj => (ca_ne _ _ _ hj).trans (c j hj), by rw [ci_putA]; exact d, by rw [ci_putA]; exact e⟩
theorem NB.eq {x y : Int} {d : List Nat} {s R : CS} (hn : NB x y d s) (hi : ∀ j : Nat, ¬ IRJ j → R.i j = s.i j) (hr : R.r = s.r) (ho : R.o = s.o) (hl : R.ol = s.ol) (nr : NR s (cnI s).toNat) : NB x y d R := by
  have n : ∀ j : Nat, j = 20 ∨ j = 21 ∨ j = 22 ∨ j = 34 ∨ j = 38 ∨ j = 43 ∨ j = 44 ∨ j = 53 ∨ j = 56 → R.i j = s.i j := fun j hj => hi j (by unfold IRJ; omega)
  have rq : RSQ s R (cnI s).toNat := fun i _ => ⟨by rw [hr], fun a _ => ⟨by rw [ho], by rw [hl]⟩⟩
  obtain ⟨i1, i2, i3, i4, i5⟩ := rq.sums nr
  have ecn : cnI R = cnI s := by unfold cnI; rw [n 53 (by omega)]
  have epl : plI R = plI s := by unfold plI; rw [n 44 (by omega)]
  have ee : eI R = eI s := by unfold eI; rw [epl, n 43 (by omega)]
  have etc : tcI R = tcI s := by unfold tcI; rw [n 21 (by omega)]
  have ecc : ccI R = ccI s := by unfold ccI; rw [n 22 (by omega)]
  have esz : szI R = szI s := by unfold szI; rw [n 20 (by omega)]
  have esg : sgI R = sgI s := by unfold sgI; rw [n 34 (by omega)]
  have eds : dsI R = dsI s := by unfold dsI; rw [n 38 (by omega)]
  obtain ⟨c1, c2, c3, c4, c5, c6, c7, c8, c9⟩ := hn
  exact ⟨by omega, by omega, by omega, by omega, by rw [ecn]; exact c5.of rq nr, by rw [ecn, i1, ee]; exact c6, by rw [ecn, i2, esg]; exact c7, by rw [eds]; exact c8, by rw [n 56 (by omega), ecn, hr, ho]; exact c9⟩
theorem IRR.cb {H : HB} {s R : CS} (h : IRR s R) (hc : CBS H s) : CBS H R := by
  obtain ⟨⟨a1, a2, a3, a4, a5, a6, a7, a8, a9, a10⟩, b, c, d, e⟩ := h
  have n : ∀ j : Nat, j = 13 ∨ j = 14 ∨ j = 32 ∨ (41 ≤ j ∧ j ≤ 45) ∨ j = 50 ∨ j = 53 → R.i j = s.i j := fun j hj => b j (by unfold IRJ; omega)
  obtain ⟨c1, c2, c3, c4, c5, c6, c7, c8, c9⟩ := hc
  have enm : nmI R = nmI s := by unfold nmI; rw [n 50 (by omega)]
  have ecn : cnI R = cnI s := by unfold cnI; rw [n 53 (by omega)]
  refine ⟨?_, ?_, ?_, ?_, ?_, by rw [enm]; exact c6, ?_, ?_, ⟨d, ?_, e⟩⟩
  · unfold REFS inP oK at *; rw [a1, a2, a3, a6, a7, a8]; exact c1
  · have etc : tcI R = tcI s := by unfold tcI; rw [b 21 (by unfold IRJ; omega)]
    refine ⟨by have := c2.1; unfold ROOM at *; rw [a1, a7]; exact this, by rw [a7]; exact c2.2.1, fun q => by rw [etc, c 17 (by decide)]; exact c2.2.2 ((n 32 (by omega)).symm.trans q)⟩
  · unfold LC AB BY at *
    rw [c 0 (by decide), n 41 (by omega), n 42 (by omega), n 43 (by omega), n 44 (by omega), n 45 (by omega), a10]
    exact c3
  · unfold WDC at *; rw [a9]; exact c4
  · rw [n 32 (by omega), n 43 (by omega)]; exact c5
  · unfold NR at *; rw [ecn, a7]; exact c7
  · rw [a7, a4]; exact c8
  · rw [n 14 (by omega), n 13 (by omega)]; exact c9.2.1
theorem IRR.ck {s R : CS} (h : IRR s R) : CK s R := by
  obtain ⟨⟨a1, a2, a3, a4, a5, a6, a7, a8, a9, a10⟩, b, c, d, e⟩ := h
  have n : ∀ j : Nat, j = 20 ∨ j = 21 ∨ j = 22 ∨ j = 50 ∨ j = 53 → R.i j = s.i j := fun j hj => b j (by unfold IRJ; omega)
  exact ⟨⟨⟨c 15 (by decide), c 16 (by decide), c 17 (by decide), c 19 (by decide), c 49 (by decide)⟩, ⟨n 20 (by omega), n 21 (by omega), n 50 (by omega), n 53 (by omega)⟩, by rw [a7], fun a _ => ⟨by rw [a4], by rw [a5]⟩⟩, n 22 (by omega)⟩
theorem IRR.f {s R : CS} (h : IRR s R) : R.i 32 = s.i 32 ∧ R.i 43 = s.i 43 ∧ plI R = plI s ∧ eI R = eI s := by
  have e : plI R = plI s := by unfold plI; rw [h.2.1 44 (by unfold IRJ; omega)]
  have e2 : R.i 43 = s.i 43 := h.2.1 43 (by unfold IRJ; omega)
  exact ⟨h.2.1 32 (by unfold IRJ; omega), e2, e, by unfold eI; rw [e, e2]⟩
theorem IRR.sx {s R : CS} (h : IRR s R) (nf : s.i 32 = 0) : SX 0 0 0 s R := by
  have f := h.f
  obtain ⟨⟨a1, a2, a3, a4, a5, a6, a7, a8, a9, a10⟩, b, c, d, e⟩ := h
  have n : ∀ j : Nat, j = 22 ∨ j = 34 ∨ j = 38 ∨ j = 50 ∨ j = 53 ∨ j = 56 → R.i j = s.i j := fun j hj => b j (by unfold IRJ; omega)
  exact ⟨nf, by omega, by unfold sgI; rw [n 34 (by omega)]; omega, ⟨n 38 (by omega), n 53 (by omega), n 56 (by omega), n 22 (by omega)⟩, by unfold nmI; rw [n 50 (by omega)]; exact Int.le_refl _, fun i _ => ⟨by rw [a7], fun a _ => ⟨by rw [a4], by rw [a5]⟩⟩, fun _ _ => by rw [c 49 (by decide)], fun _ _ => by rw [c 18 (by decide), c 19 (by decide)]; exact ⟨rfl, rfl⟩⟩
theorem JK.irr {H : HB} {x y : Int} {cD c d : List Nat} {X : List (Nat × List Nat)} {P : List Nat} {lim : List Int} {s R : CS} (h : JK H x y cD c d X P lim s) (hi : IRR s R) : JK H x y cD c d X P lim R := ⟨hi.cb h.1, fun q => by
  obtain ⟨g, n⟩ := h.2 (hi.f.1.symm.trans q)
  exact ⟨g.ck h.1.1 hi.ck, n.eq hi.2.1 hi.1.2.2.2.2.2.2.1 hi.1.2.2.2.1 hi.1.2.2.2.2.1 h.1.2.2.2.2.2.2.1.2.2⟩⟩
theorem JJ.irr {H : HB} {x y : Int} {c : List Nat} {X : List (Nat × List Nat)} {P : List Nat} {lim : List Int} {s R : CS} (h : JJ H x y c X P lim s) (hi : IRR s R) : JJ H x y c X P lim R := JK.j (h.k.irr hi)
/-- a name more -/
def NAD (s R : CS) (v : Int32) : Prop := (R.hs = s.hs ∧ R.L = s.L ∧ R.k = s.k ∧ R.o = s.o ∧ R.ol = s.ol ∧ R.ot = s.ot ∧ R.r = s.r ∧ R.w = s.w ∧ R.b 40 = s.b 40 ∧ R.l = s.l) ∧ (∀ j : Nat, j ≠ 50 → R.i j = s.i j) ∧ (∀ k : Nat, k ≠ 48 → k ≠ 49 → R.a k = s.a k) ∧ (nmI s ≤ nmI R ∧ nmI R ≤ nmI s + 1 ∧ nmI R ≤ 128) ∧ (∀ n : Nat, (n : Int) < nmI s → R.a 49 n = s.a 49 n) ∧ (∀ n : Nat, nmI s ≤ (n : Int) → (n : Int) < nmI R → R.a 49 n = v)
theorem q_nad {N : Nat} {s : CS} (h : 0 ≤ nmI s ∧ nmI s ≤ 128) (x1 : Int64) (x3 x4 : Int32) : ok (f_X4_add N s x1 x3 x4) (fun R => NAD s R.2 x4) := by
  unfold f_X4_add
  have e1 : (1 : Int32).toInt = 1 := by decide
  have e128 : (128 : Int32).toInt = 128 := by decide
  refine ok_ite (fun _ => ok_some ⟨⟨rfl, rfl, rfl, rfl, rfl, rfl, rfl, rfl, rfl, rfl⟩, fun _ _ => rfl, fun _ _ _ => rfl, ⟨Int.le_refl _, by show nmI s ≤ nmI s + 1; omega, h.2⟩, fun _ _ => rfl, fun n a b => by have b : (n : Int) < nmI s := b; omega⟩) (fun c => ?_)
  have l := lt_int (Int32.not_le.mp c)
  rw [e128] at l
  have h' : 0 ≤ (s.i 50).toInt ∧ (s.i 50).toInt ≤ 128 := h
  have cl := clampI h'.1
  refine ok_chk ⟨h'.1, by omega⟩ (ok_some ?_)
  obtain ⟨m, hm⟩ : ∃ m, m = (s.i 50).toNatClampNeg := ⟨_, rfl⟩
  rw [← hm] at cl ⊢
  obtain ⟨U, hU⟩ : ∃ U, U = CS.setA (CS.setB s 47 m x1) 48 m x3 := ⟨_, rfl⟩
  have u : (U.hs = s.hs ∧ U.L = s.L ∧ U.k = s.k ∧ U.o = s.o ∧ U.ol = s.ol ∧ U.ot = s.ot ∧ U.r = s.r ∧ U.w = s.w ∧ U.b 40 = s.b 40 ∧ U.l = s.l) ∧ U.i = s.i ∧ (∀ k : Nat, k ≠ 48 → U.a k = s.a k) := by
    rw [hU]
    exact ⟨⟨rfl, rfl, rfl, rfl, rfl, rfl, rfl, rfl, (show va_up s.b 47 (vp_updL (s.b 47) m x1) 40 = s.b 40 from if_neg (by decide)), rfl⟩, rfl, fun k hk => if_neg hk⟩
  rw [← hU]
  clear hU
  obtain ⟨⟨u1, u2, u3, u4, u5, u6, u7, u8, u9, u10⟩, u11, u12⟩ := u
  have en : nmI (CS.setI (CS.setA U 49 m x4) 50 (s.i 50 + 1)) = nmI s + 1 := by
    unfold nmI
    rw [ci_at, toInt_add] <;> rw [e1] <;> omega
  refine ⟨⟨u1, u2, u3, u4, u5, u6, u7, u8, u9, u10⟩, fun j hj => ?_, fun k k1 k2 => ?_, ⟨by show nmI s ≤ nmI (CS.setI (CS.setA U 49 m x4) 50 (s.i 50 + 1)); omega, by show nmI (CS.setI (CS.setA U 49 m x4) 50 (s.i 50 + 1)) ≤ _; omega, by show nmI (CS.setI (CS.setA U 49 m x4) 50 (s.i 50 + 1)) ≤ 128; unfold nmI at *; omega⟩, fun n hn => ?_, fun n hn hn2 => ?_⟩
  · show (CS.setI (CS.setA U 49 m x4) 50 (s.i 50 + 1)).i j = s.i j
    rw [ci_ne _ _ _ hj, ci_setA, u11]
  · exact (show (CS.setI (CS.setA U 49 m x4) 50 (s.i 50 + 1)).a k = U.a k from if_neg k2).trans (u12 k k1)
  · have hn' : (n : Int) < (s.i 50).toInt := hn
    have e : (CS.setI (CS.setA U 49 m x4) 50 (s.i 50 + 1)).a 49 = upd (U.a 49) m x4 := (show va_up U.a 49 (upd (U.a 49) m x4) 49 = _ from if_pos rfl)
    show (CS.setI (CS.setA U 49 m x4) 50 (s.i 50 + 1)).a 49 n = s.a 49 n
    rw [e, u12 49 (by decide)]
    exact if_neg (by omega)
  · have hn' : (s.i 50).toInt ≤ (n : Int) := hn
    have hn3 : (n : Int) < nmI (CS.setI (CS.setA U 49 m x4) 50 (s.i 50 + 1)) := hn2
    rw [en] at hn3
    have hn4 : (n : Int) < (s.i 50).toInt + 1 := hn3
    have e : (CS.setI (CS.setA U 49 m x4) 50 (s.i 50 + 1)).a 49 = upd (U.a 49) m x4 := (show va_up U.a 49 (upd (U.a 49) m x4) 49 = _ from if_pos rfl)
    show (CS.setI (CS.setA U 49 m x4) 50 (s.i 50 + 1)).a 49 n = x4
    rw [e]
    exact if_pos (by omega)
theorem NAD.cb {H : HB} {s R : CS} {v : Int32} (h : NAD s R v) (hc : CBS H s) : CBS H R := by
  obtain ⟨⟨a1, a2, a3, a4, a5, a6, a7, a8, a9, a10⟩, b, c, d, e, e2⟩ := h
  obtain ⟨c1, c2, c3, c4, c5, c6, c7, c8, c9⟩ := hc
  have ecn : cnI R = cnI s := by unfold cnI; rw [b 53 (by decide)]
  refine ⟨?_, ?_, ?_, ?_, ?_, by omega, ?_, ?_, ?_⟩
  · unfold REFS inP oK at *; rw [a1, a2, a3, a6, a7, a8]; exact c1
  · have etc : tcI R = tcI s := by unfold tcI; rw [b 21 (by decide)]
    refine ⟨by have := c2.1; unfold ROOM at *; rw [a1, a7]; exact this, by rw [a7]; exact c2.2.1, fun q => by rw [etc, c 17 (by decide) (by decide)]; exact c2.2.2 ((b 32 (by decide)).symm.trans q)⟩
  · unfold LC AB BY at *
    rw [c 0 (by decide) (by decide), b 41 (by decide), b 42 (by decide), b 43 (by decide), b 44 (by decide), b 45 (by decide), a10]
    exact c3
  · unfold WDC at *; rw [a9]; exact c4
  · rw [b 32 (by decide), b 43 (by decide)]; exact c5
  · unfold NR at *; rw [ecn, a7]; exact c7
  · rw [a7, a4]; exact c8
  · rw [b 36 (by decide), b 14 (by decide), b 13 (by decide), b 27 (by decide)]; exact c9
theorem NAD.f {s R : CS} {v : Int32} (h : NAD s R v) : R.i 32 = s.i 32 ∧ R.i 43 = s.i 43 ∧ plI R = plI s ∧ eI R = eI s := by
  have e : plI R = plI s := by unfold plI; rw [h.2.1 44 (by decide)]
  have e2 : R.i 43 = s.i 43 := h.2.1 43 (by decide)
  exact ⟨h.2.1 32 (by decide), e2, e, by unfold eI; rw [e, e2]⟩
theorem NAD.sx {s R : CS} {v : Int32} (h : NAD s R v) (nf : s.i 32 = 0) : SX 0 0 0 s R := by
  have f := h.f
  obtain ⟨⟨a1, a2, a3, a4, a5, a6, a7, a8, a9, a10⟩, b, c, d, e, e2⟩ := h
  exact ⟨nf, by omega, by unfold sgI; rw [b 34 (by decide)]; omega, ⟨b 38 (by decide), b 53 (by decide), b 56 (by decide), b 22 (by decide)⟩, d.1, fun i _ => ⟨by rw [a7], fun a _ => ⟨by rw [a4], by rw [a5]⟩⟩, e, fun _ _ => by rw [c 18 (by decide) (by decide), c 19 (by decide) (by decide)]; exact ⟨rfl, rfl⟩⟩
theorem JK.nad {H : HB} {x y : Int} {cD c d : List Nat} {X : List (Nat × List Nat)} {P : List Nat} {lim : List Int} {s R : CS} {v : Int32} (h : JK H x y cD c d X P lim s) (hn : NAD s R v) (hv : s.i 32 = 0 → NMT v c) : JK H x y cD c d X P lim R := by
  refine ⟨hn.cb h.1, fun q => ?_⟩
  have q' := hn.f.1.symm.trans q
  obtain ⟨g, n⟩ := h.2 q'
  have hv := hv q'
  have nr := h.1.2.2.2.2.2.2.1.2.2
  have ff := hn.f
  obtain ⟨⟨a1, a2, a3, a4, a5, a6, a7, a8, a9, a10⟩, b, c, d, e, e2⟩ := hn
  have rq : ∀ m : Nat, RSQ s R m := fun m i _ => ⟨by rw [a7], fun a _ => ⟨by rw [a4], by rw [a5]⟩⟩
  have ecn : cnI R = cnI s := by unfold cnI; rw [b 53 (by decide)]
  have etc : tcI R = tcI s := by unfold tcI; rw [b 21 (by decide)]
  have ecc : ccI R = ccI s := by unfold ccI; rw [b 22 (by decide)]
  have esz : szI R = szI s := by unfold szI; rw [b 20 (by decide)]
  have esg : sgI R = sgI s := by unfold sgI; rw [b 34 (by decide)]
  have eds : dsI R = dsI s := by unfold dsI; rw [b 38 (by decide)]
  refine ⟨?_, ?_⟩
  · obtain ⟨D, DT, KT, h1, h2, h3, h4, h5, ⟨m, m1, m2, m3⟩, h7, h8, h9, h10⟩ := g
    refine ⟨D, DT, KT, ?_, ?_, fun t q1 q2 q3 => ?_, by rw [esz]; exact h4, by rw [etc]; exact h5, ⟨m, by rw [ecn]; exact m1, m2, ?_⟩, fun k hk => ?_, by rw [etc]; exact h8, by rw [ecc]; exact h9, fun i a hi ea => ?_⟩
    · unfold CDT at *; rw [c 15 (by decide) (by decide), c 16 (by decide) (by decide), etc, esz]; exact h1
    · unfold TGS at *; rw [c 17 (by decide) (by decide), etc, esz]; exact h2
    · rw [etc] at q1
      rw [c 17 (by decide) (by decide)] at q3
      rcases h3 t q1 q2 q3 with z | z
      · exact Or.inl z
      · exact Or.inr (z.of (by omega) (fun i a _ e => ⟨by rw [a7]; exact e, by rw [a4]⟩))
    · refine m3.mono (by omega) (fun _ _ => ⟨rfl, Iff.rfl⟩) (fun t _ q => by rw [c 17 (by decide) (by decide)]; exact q) (rq m) (fun k _ => by rw [c 19 (by decide) (by decide)]) (fun i a hi ea k hk => ?_) m3.nr
      have z := (h10 i a (by omega) ea).1
      exact e k (by omega)
    · by_cases z : (k : Int) < nmI s
      · rw [e k z]; exact h7 k z
      · rw [e2 k (by omega) hk]; exact hv
    · rw [a7] at ea
      rw [ecn] at hi
      have z := h10 i a hi ea
      rw [a4]
      refine ⟨by have := z.1; omega, fun j b' y1 y2 y3 => ?_⟩
      rw [a7] at y3
      rw [ecn] at y2
      exact z.2 j b' y1 y2 y3
  · obtain ⟨i1, i2, i3, i4, i5⟩ := (rq (cnI s).toNat).sums nr
    obtain ⟨c1, c2, c3, c4, c5, c6, c7, c8, c9⟩ := n
    exact ⟨by omega, by omega, by omega, by omega, by rw [ecn]; exact c5.of (rq _) nr, by rw [ecn, i1, ff.2.2.2]; exact c6, by rw [ecn, i2, esg]; exact c7, by rw [eds]; exact c8, by rw [b 56 (by decide), ecn, a7, a4]; exact c9⟩
end
section
/-! the class's reading: a row that is not counted yet -/
theorem JK.rsq {H : HB} {x y : Int} {cD c d : List Nat} {X : List (Nat × List Nat)} {P : List Nat} {lim : List Int} {s R : CS} (h : JK H x y cD c d X P lim s) (hb : CBS H R) (h32 : R.i 32 = s.i 32) (hs : s.i 32 = 0 → SCD s R ∧ RSQ s R (cnI s).toNat ∧ (R.i 34 = s.i 34 ∧ R.i 38 = s.i 38 ∧ R.i 43 = s.i 43 ∧ R.i 44 = s.i 44 ∧ R.i 53 = s.i 53 ∧ R.i 56 = s.i 56)) : JK H x y cD c d X P lim R := by
  refine ⟨hb, fun q => ?_⟩
  have q' := h32.symm.trans q
  obtain ⟨g, n⟩ := h.2 q'
  obtain ⟨⟨⟨e1, e2, e3, e4, e5⟩, ⟨e6, e7, e8, e9⟩⟩, rq, ⟨f1, f2, f3, f4, f5, f6⟩⟩ := hs q'
  have nr := h.1.2.2.2.2.2.2.1.2.2
  have cn0 := h.1.2.2.2.2.2.2.1.1
  have ecn : cnI R = cnI s := by unfold cnI; rw [f5]
  have etc : tcI R = tcI s := by unfold tcI; rw [e7]
  have ecc : ccI R = ccI s := by unfold ccI; rw [e9]
  have esz : szI R = szI s := by unfold szI; rw [e6]
  have enm : nmI R = nmI s := by unfold nmI; rw [e8]
  have esg : sgI R = sgI s := by unfold sgI; rw [f1]
  have eds : dsI R = dsI s := by unfold dsI; rw [f2]
  have epl : plI R = plI s := by unfold plI; rw [f4]
  have ee : eI R = eI s := by unfold eI; rw [epl, f3]
  have back : ∀ i a : Nat, (i : Int) < cnI s → R.r 51 i = some a → s.r 51 i = some a ∧ R.o a = s.o a := fun i a hi e => by
    have w := rq i (by omega)
    have z := w.1.symm.trans e
    exact ⟨z, (w.2 a z).1⟩
  refine ⟨?_, ?_⟩
  · obtain ⟨D, DT, KT, h1, h2, h3, h4, h5, ⟨m, m1, m2, m3⟩, h7, h8, h9, h10⟩ := g
    have em : m = (cnI s).toNat := by omega
    refine ⟨D, DT, KT, ?_, ?_, fun t q1 q2 q3 => ?_, by rw [esz]; exact h4, by rw [etc]; exact h5, ⟨m, by rw [ecn]; exact m1, m2, ?_⟩, by rw [enm, e5]; exact h7, by rw [etc]; exact h8, by rw [ecc]; exact h9, h10.of ecn enm (fun i a hi e => back i a hi e)⟩
    · unfold CDT at *; rw [e1, e2, etc, esz]; exact h1
    · unfold TGS at *; rw [e3, etc, esz]; exact h2
    · rw [etc] at q1
      rw [e3] at q3
      rcases h3 t q1 q2 q3 with z | z
      · exact Or.inl z
      · exact Or.inr (z.of (by omega) (fun i a hi e => by
          have w := rq i (by omega)
          exact ⟨w.1.trans e, (w.2 a e).1⟩))
    · exact m3.mono (by omega) (fun _ _ => ⟨rfl, Iff.rfl⟩) (fun t _ q => by rw [e3]; exact q) (by rw [em]; exact rq) (fun k _ => by rw [e4]) (fun _ _ _ _ k _ => by rw [e5]) m3.nr
  · obtain ⟨i1, i2, i3, i4, i5⟩ := rq.sums nr
    obtain ⟨c1, c2, c3, c4, c5, c6, c7, c8, c9⟩ := n
    refine ⟨by omega, by omega, by omega, by omega, by rw [ecn]; exact c5.of rq nr, by rw [ecn, i1, ee]; exact c6, by rw [ecn, i2, esg]; exact c7, by rw [eds]; exact c8, ?_⟩
    rw [f6, ecn]
    refine ⟨c9.1, c9.2.1, fun b q1 q2 => ?_⟩
    have w := back _ b (by have := c9.2.1; omega) q2
    rw [w.2]
    exact c9.2.2 b q1 w.1
theorem CBS.sh {H : HB} {s : CS} (h : CBS H s) (v : Int32) (hv : 0 ≤ v.toInt ∧ v.toInt ≤ cnI s) : CBS H (CS.setI s 53 v) := by
  obtain ⟨c1, c2, c3, c4, c5, c6, ⟨c7, c7', c7''⟩, c8, c9⟩ := h
  have e : cnI (CS.setI s 53 v) = v.toInt := by unfold cnI; rw [ci_at]
  have n : ∀ j : Nat, j ≠ 53 → (CS.setI s 53 v).i j = s.i j := fun j hj => ci_ne _ _ _ hj
  refine ⟨c1, c2, c3, c4, ?_, c6, ⟨by omega, by omega, fun i hi => c7'' i (by omega)⟩, c8, ?_⟩
  · rw [n 32 (by decide), n 43 (by decide)]; exact c5
  · rw [n 36 (by decide), n 14 (by decide), n 13 (by decide), n 27 (by decide)]; exact c9
theorem NTG.sh {s R : CS} (h : NTG s R) (v : Int32) : NTG (CS.setI s 53 v) (CS.setI R 53 v) := by
  obtain ⟨b, b11, b12, b13, b14⟩ := h
  refine ⟨b, fun j hj => ?_, ?_, b13, ?_⟩
  · by_cases q : j = 53
    · rw [q, ci_at, ci_at]
    · rw [ci_ne _ _ _ q, ci_ne _ _ _ q]; exact b11 j hj
  · rw [ci_ne _ _ _ (by decide), ci_ne _ _ _ (by decide)]; exact b12
  · rw [ca_setI, ca_setI, ci_ne _ _ _ (by decide)]; exact b14
theorem ADD.sh {s R : CS} {o x : Int32} (h : ADD s R o x) (v : Int32) : ADD (CS.setI s 53 v) (CS.setI R 53 v) o x := by
  obtain ⟨b, b11, b12, b13, b14, b15⟩ := h
  refine ⟨b, fun j hj => ?_, ?_, b13, ?_, ?_⟩
  · by_cases q : j = 53
    · rw [q, ci_at, ci_at]
    · rw [ci_ne _ _ _ q, ci_ne _ _ _ q]; exact b11 j hj
  · rw [ci_ne _ _ _ (by decide), ci_ne _ _ _ (by decide)]; exact b12
  · rw [ca_setI, ca_setI, ci_ne _ _ _ (by decide)]; exact b14
  · rw [ca_setI, ca_setI, ci_ne _ _ _ (by decide)]; exact b15
theorem AIM.sh {s R : CS} {t : Int32} (h : AIM s R t) (v : Int32) : AIM (CS.setI s 53 v) (CS.setI R 53 v) t := by
  obtain ⟨b, b11, b13, b14⟩ := h
  refine ⟨b, ?_, b13, ?_⟩
  · show va_up R.i 53 v = va_up s.i 53 v
    rw [b11]
  · rw [ca_setI, ca_setI, ci_ne _ _ _ (by decide)]; exact b14
theorem ADV.sh {s R : CS} (h : ADV s R) (v : Int32) : ADV (CS.setI s 53 v) (CS.setI R 53 v) := by
  obtain ⟨⟨b, b1⟩, h2, h3, h4, h5⟩ := h
  refine ⟨⟨b, fun j q1 q2 q3 q4 => ?_⟩, h2, ?_, ?_, ?_⟩
  · by_cases q : j = 53
    · rw [q, ci_at, ci_at]
    · rw [ci_ne _ _ _ q, ci_ne _ _ _ q]; exact b1 j q1 q2 q3 q4
  · rw [ci_ne _ _ _ (by decide), ci_ne _ _ _ (by decide)]; exact h3
  · rw [ci_ne _ _ _ (by decide), ci_ne _ _ _ (by decide), ci_ne _ _ _ (by decide), ci_ne _ _ _ (by decide)]; exact h4
  · rw [ci_ne _ _ _ (by decide), ci_ne _ _ _ (by decide)]; exact h5
/-- a cell's number is set -/
theorem CBS.o {H : HB} {s : CS} (h : CBS H s) (a k : Nat) (w : Int32) (hb : (5 ≤ k ∧ k ≤ 8) → bo w) (h3 : k = 3 → 0 ≤ w.toInt ∧ w.toInt ≤ 128) : CBS H (CS.setO s a k w) := by
  obtain ⟨c1, c2, c3, c4, c5, c6, c7, c8, c9⟩ := h
  refine ⟨c1, c2, c3, c4, c5, c6, c7, fun i b hi e => ?_, c9⟩
  have z := c8 i b hi e
  have o1 : ∀ j : Nat, (CS.setO s a k w).o b j = if b = a then (if j = k then w else s.o a j) else s.o b j := fun j => by
    by_cases q : b = a
    · rw [if_pos q, q]
      show va_up s.o a (upd (s.o a) k w) a j = _
      rw [show va_up s.o a (upd (s.o a) k w) a = upd (s.o a) k w from if_pos rfl]
      rfl
    · rw [if_neg q]
      show va_up s.o a (upd (s.o a) k w) b j = _
      rw [show va_up s.o a (upd (s.o a) k w) b = s.o b from if_neg q]
  have one : ∀ j : Nat, 5 ≤ j → j ≤ 8 → bo (s.o b j) → bo ((CS.setO s a k w).o b j) := fun j j1 j2 hj => by
    rw [o1]
    by_cases q : b = a
    · rw [if_pos q]
      by_cases q2 : j = k
      · rw [if_pos q2]; exact hb (by omega)
      · rw [if_neg q2, ← q]; exact hj
    · rw [if_neg q]; exact hj
  refine ⟨⟨one 5 (by omega) (by omega) z.1.1, one 6 (by omega) (by omega) z.1.2.1, one 7 (by omega) (by omega) z.1.2.2.1, one 8 (by omega) (by omega) z.1.2.2.2⟩, ?_⟩
  rw [o1]
  by_cases q : b = a
  · rw [if_pos q]
    by_cases q2 : 3 = k
    · rw [if_pos q2]; exact h3 q2.symm
    · rw [if_neg q2, ← q]; exact z.2
  · rw [if_neg q]; exact z.2
theorem CBS.ol {H : HB} {s : CS} (h : CBS H s) (a : Nat) (w : Int64) : CBS H (CS.setOl s a w) := h
theorem oK.o {s : CS} {a b t k : Nat} {w : Int32} (h : oK s b t) : oK (CS.setO s a k w) b t := h
/-- a row a that is made at m, but not counted yet -/
def PRK (H : HB) (x y : Int) (cD c d : List Nat) (X : List (Nat × List Nat)) (P : List Nat) (lim : List Int) (v : Int32) (m a : Nat) (s : CS) : Prop := CBS H s ∧ (oK s a 0 ∧ s.r 51 m = some a ∧ m < 400 ∧ 0 ≤ v.toInt ∧ v.toInt ≤ cnI s) ∧ (s.i 32 = 0 → v.toInt = (m : Int) ∧ cnI s = (m : Int) + 1) ∧ JK H x y cD c d X P lim (CS.setI s 53 v)
theorem PRK.w {H : HB} {x y x' y' : Int} {cD c d : List Nat} {X : List (Nat × List Nat)} {P : List Nat} {lim : List Int} {v : Int32} {m a : Nat} {s : CS} (h : PRK H x y cD c d X P lim v m a s) (hx : x ≤ x') (hy : y ≤ y') : PRK H x' y' cD c d X P lim v m a s := ⟨h.1, h.2.1, h.2.2.1, h.2.2.2.w hx hy⟩
theorem q_pushK {N : Nat} {H : HB} {x y : Int} {cD c d : List Nat} {X : List (Nat × List Nat)} {P : List Nat} {lim : List Int} {s : CS} (h : JK H x y cD c d X P lim s) (x1 x2 x3 : Int32) (h3 : 0 ≤ x3.toInt ∧ x3.toInt ≤ 128) : ok (f_X6_push N s x1 x2 x3) (fun R => ∃ a m : Nat, R.1 = some a ∧ PRK H x y cD c d X P lim (if (399 : Int32) < s.i 53 then (399 : Int32) else s.i 53) m a R.2 ∧ PSH s R.2 a m x1 x2 x3) := by
  refine ok_imp (q_psh h.1 x1 x2 x3 h3) (fun R hR => ?_)
  obtain ⟨a, m, r1, ⟨m4, mc, mc2⟩, cb, ps⟩ := hR
  refine ⟨a, m, r1, ?_, ps⟩
  obtain ⟨⟨p1, p2, p3⟩, p4, p5, p6, p7, p8, p9, p10⟩ := ps
  have cn := h.1.2.2.2.2.2.2.1
  have e399 : (399 : Int32).toInt = 399 := by decide
  obtain ⟨v, hv⟩ : ∃ v : Int32, v = (if (399 : Int32) < (s.i 53) then (399 : Int32) else (s.i 53)) := ⟨_, rfl⟩
  have v0 : (0 ≤ v.toInt ∧ v.toInt ≤ 399 ∧ v.toInt ≤ cnI s) ∧ (cnI s ≤ 399 → v = s.i 53) := by
    have cn0 : 0 ≤ (s.i 53).toInt := cn.1
    by_cases q : (399 : Int32) < s.i 53
    · have l := lt_int q
      rw [e399] at l
      have l' : 399 < cnI s := l
      rw [hv, if_pos q, e399]
      exact ⟨by omega, fun z => by omega⟩
    · have l := le_int (Int32.not_lt.mp q)
      rw [e399] at l
      rw [hv, if_neg q]
      exact ⟨⟨cn0, l, Int.le_refl _⟩, fun _ => rfl⟩
  rw [← hv]
  clear hv
  have nfb : s.i 32 = 0 → cnI s ≤ 399 := fun q => by
    have n := (h.2 q).2
    have b := n.2.2.2.2.1.bound (by
      have := n.2.2.2.2.2.1
      have e := eI.ge s
      have a := h.1.2.2.1.2.1
      have b := h.1.2.2.1.1
      have : plI s ≤ 900 := by unfold plI; omega
      omega) (by have := n.2.2.2.2.2.2.1; have := n.2.2.2.1.2; omega)
    omega
  have e32 : R.2.i 32 = s.i 32 := p4 32 (by decide) (by decide)
  have vm : v.toInt ≤ (m : Int) := by
    by_cases q : cnI s ≤ 399
    · have := mc q; have := v0.1; omega
    · have := mc2 (by omega)
      have := v0.1.2.1
      omega
  refine ⟨cb, ⟨p8, p6, m4, v0.1.1, by omega⟩, fun q => ?_, ?_⟩
  · have q' := nfb (e32.symm.trans q)
    have e := mc q'
    rw [v0.2 q']
    exact ⟨e.symm, p5⟩
  · refine h.rsq (cb.sh v ⟨v0.1.1, by omega⟩) ((ci_ne _ _ _ (by decide)).trans e32) (fun q => ?_)
    have q' := nfb q
    have e := mc q'
    have n : ∀ j : Nat, j ≠ 53 → j ≠ 54 → (CS.setI R.2 53 v).i j = s.i j := fun j j1 j2 => (ci_ne _ _ _ j1).trans (p4 j j1 j2)
    refine ⟨⟨⟨?_, ?_, ?_, ?_, ?_⟩, ⟨n 20 (by decide) (by decide), n 21 (by decide) (by decide), n 50 (by decide) (by decide), n 22 (by decide) (by decide)⟩⟩, fun i hi => ?_, n 34 (by decide) (by decide), n 38 (by decide) (by decide), n 43 (by decide) (by decide), n 44 (by decide) (by decide), (ci_at _ _ _).trans (v0.2 q'), n 56 (by decide) (by decide)⟩
    · rw [ca_setI, p1]
    · rw [ca_setI, p1]
    · rw [ca_setI, p1]
    · rw [ca_setI, p1]
    · rw [ca_setI, p1]
    · have ne : i ≠ m := by omega
      refine ⟨by rw [cr_setI]; exact p7 i ne, fun b eb => ?_⟩
      have w := p9 i b (by omega) ne eb
      exact ⟨by rw [co_setI]; exact w.2.1, by rw [col_setI]; exact w.2.2⟩
end
section
/-! the class's reading: a row is counted -/
theorem JK.row {H : HB} {x y : Int} {cD c c' d d' : List Nat} {X : List (Nat × List Nat)} {P P' : List Nat} {lim lim' : List Int} {s R : CS} {a m : Nat} (h : JK H x y cD c d X P lim s) (nf : s.i 32 = 0) (hb : CBS H R) (hm : (m : Int) = cnI s) (m4 : m < 400) (hs : SCD s R) (hc : cnI R = (m : Int) + 1) (ha : R.r 51 m = some a) (hr : RSQ s R m) (hl : (c.length : Int) ≤ SGS s m + arx R a) (hR : ∀ (DT : Nat → List Nat) (KT : Nat → Prop), (∀ q ∈ X, (q.1 : Int) < tcI s ∧ DT q.1 = q.2 ∧ ¬ KT q.1) → (∀ n : Nat, (n : Int) < nmI s → NMT (s.a 49 n) c) → ROW1 R DT KT a c c' lim' lim) (hP : ∀ k ∈ P, k ∈ P' ∨ OWS R a k) (hN : ∀ z : Int32, NMT z c → NMT z c') (hi : lmh lim' ≤ ccI s) (h30 : (R.o a 3).toInt ≤ nmI s ∧ ∀ j b : Nat, (j : Int) < cnI s → s.r 51 j = some b → (s.o b 3).toInt ≤ (R.o a 3).toInt) (hj : R.i 34 = s.i 34 ∧ R.i 43 = s.i 43 ∧ R.i 44 = s.i 44) (hd : (d'.length : Int) = dsI R ∧ d'.length ≤ 21) (hq : IQ R (m + 1)) (hw : WCS R (m + 1) ≤ eI s) (hg : SGS R (m + 1) ≤ sgI s) (h56 : R.i 56 = s.i 56 ∨ (R.i 56).toInt = (m : Int) ∧ R.o a 0 = 302) : JK H (x + 50) y cD c' d' X P' lim' R := by
  obtain ⟨g, n⟩ := h.2 nf
  refine ⟨hb, fun _ => ⟨g.row hm m4 hs hc ha hr hl hR hP hN hi h30, ?_⟩⟩
  obtain ⟨c1, c2, c3, c4, c5, c6, c7, c8, c9⟩ := n
  obtain ⟨-, ⟨e6, e7, e8, e9⟩⟩ := hs
  have etc : tcI R = tcI s := by unfold tcI; rw [e7]
  have esz : szI R = szI s := by unfold szI; rw [e6]
  have ecc : ccI R = ccI s := by unfold ccI; rw [e9]
  have esg : sgI R = sgI s := by unfold sgI; rw [hj.1]
  have epl : plI R = plI s := by unfold plI; rw [hj.2.2]
  have ee : eI R = eI s := by unfold eI; rw [epl, hj.2.1]
  have ecn : (cnI R).toNat = m + 1 := by omega
  refine ⟨by omega, by omega, by omega, by rw [esg]; exact c4, by rw [ecn]; exact hq, by rw [ecn, ee]; exact hw, by rw [ecn, esg]; exact hg, hd, ?_⟩
  rcases h56 with e | ⟨e, e2⟩
  · rw [e]
    refine ⟨c9.1, by omega, fun b q1 q2 => ?_⟩
    have lt : (s.i 56).toInt.toNat < m := by have := c9.2.1; omega
    have q := hr _ lt
    have z : s.r 51 (s.i 56).toInt.toNat = some b := q.1.symm.trans q2
    rw [(q.2 b z).1]
    exact c9.2.2 b q1 z
  · refine ⟨by omega, by omega, fun b q1 q2 => ?_⟩
    have em : (R.i 56).toInt.toNat = m := by omega
    rw [em, ha] at q2
    cases q2
    exact e2
/-- the innermost row is not between a try's blocks -/
def NG (s : CS) : Prop := ∀ m a : Nat, cnI s = (m : Int) + 1 → s.r 51 m = some a → ¬ s.o a 0 = 305
theorem SX.ng {p g d : Int} {s R : CS} (h : SX p g d s R) (hn : NG s) (nr : NR s (cnI s).toNat) : NG R := fun m a hm e => by
  have ecn : cnI R = cnI s := by unfold cnI; rw [h.2.2.2.1.2.1]
  rw [ecn] at hm
  have q := h.2.2.2.2.2.1 m (by omega)
  have z := q.1.symm.trans e
  rw [(q.2 a z).1]
  exact hn m a hm z
theorem JK.len {H : HB} {x y : Int} {cD c d : List Nat} {X : List (Nat × List Nat)} {P : List Nat} {lim : List Int} {s : CS} (h : JK H x y cD c d X P lim s) (nf : s.i 32 = 0) (ng : NG s) : (c.length : Int) ≤ SGS s (cnI s).toNat := by
  obtain ⟨D, DT, KT, -, -, -, -, -, ⟨n, n1, n2, n3⟩, -⟩ := (h.2 nf).1
  have en : (cnI s).toNat = n := by omega
  rw [en]
  exact n3.len (fun m a e1 e2 => ng m a (by omega) e2)
/-- what a statement leaves, with its row or without -/
def SRL (s R : CS) : Prop := s.i 32 = 0 ∧ (plI s + 1 ≤ plI R ∧ eI s ≤ eI R) ∧ sgI R - SGS R (cnI R).toNat = sgI s - SGS s (cnI s).toNat ∧ (cnI s ≤ cnI R ∧ cnI R ≤ cnI s + 1) ∧ RSQ s R (cnI s).toNat ∧ (∀ n : Nat, (n : Int) < nmI s → R.a 49 n = s.a 49 n) ∧ (∀ i : Nat, (i : Int) < ccI s → R.a 18 i = s.a 18 i ∧ R.a 19 i = s.a 19 i) ∧ R.i 56 = s.i 56 ∧ R.i 22 = s.i 22 ∧ nmI s ≤ nmI R ∧ (0 ≤ cnI s → cnI R = cnI s + 1 → ∀ b : Nat, R.r 51 (cnI s).toNat = some b → ¬ R.o b 0 = 305)
theorem SX.srl {p g : Int} {s R : CS} (h : SX p g 0 s R) (hp : 1 ≤ p) (hg : 0 ≤ g) (nr : NR s (cnI s).toNat) : SRL s R := by
  obtain ⟨a0, ⟨a1, a2⟩, a3, ⟨a4, a5, a6, a7⟩, a8, a9, a10, a11⟩ := h
  have ecn : cnI R = cnI s := by unfold cnI; rw [a5]
  obtain ⟨i1, i2, i3, i4, i5⟩ := a9.sums nr
  exact ⟨a0, ⟨by omega, by omega⟩, by rw [ecn, i2]; omega, by omega, a9, a10, a11, a6, a7, a8, fun _ z => by omega⟩
/-- with the way that was gone since s0 -/
def PRX (H : HB) (x y : Int) (cD c d : List Nat) (X : List (Nat × List Nat)) (P : List Nat) (lim : List Int) (v : Int32) (m a : Nat) (s0 : CS) (p g e : Int) (s : CS) : Prop := PRK H x y cD c d X P lim v m a s ∧ (s.i 32 = 0 → SX p g e s0 (CS.setI s 53 v))
theorem PRX.w {H : HB} {x y x' y' : Int} {cD c d : List Nat} {X : List (Nat × List Nat)} {P : List Nat} {lim : List Int} {v : Int32} {m a : Nat} {s0 s : CS} {p g e : Int} (h : PRX H x y cD c d X P lim v m a s0 p g e s) (hx : x ≤ x') (hy : y ≤ y') : PRX H x' y' cD c d X P lim v m a s0 p g e s := ⟨h.1.w hx hy, h.2⟩
theorem PRX.new {H : HB} {x y : Int} {cD c d : List Nat} {X : List (Nat × List Nat)} {P : List Nat} {lim : List Int} {v : Int32} {m a : Nat} {s0 s R : CS} {p g e : Int} (h : PRX H x y cD c d X P lim v m a s0 p g e s) (hr : NTG s R) (hx : x ≤ 10000) (hy : y ≤ 100) (t : List Nat) : PRX H x (y + 1) cD c d (((tcI s).toNat, t) :: X) ((tcI s).toNat :: P) lim v m a s0 p g e R ∧ R.o = s.o ∧ R.ol = s.ol := by
  obtain ⟨⟨h1, ⟨h2, h3, h4, h5, h5'⟩, h6, h7⟩, h8⟩ := h
  have sh := hr.sh v
  obtain ⟨⟨b1, b2, b3, b4, b5, b6, b7, b8, b9, b10⟩, b11, b12, b13, b14⟩ := (show NTG s R from hr)
  have ecn : cnI R = cnI s := by unfold cnI; rw [b11 53 (by decide)]
  have e32 : R.i 32 = s.i 32 := b11 32 (by decide)
  refine ⟨⟨⟨hr.cb h1 (fun q => by
    have w := h7.2 ((ci_ne _ _ _ (by decide)).trans q)
    exact ⟨w.1.tc0.1, by have := (w.2.sz h7.1.2.2.1 h7.1.2.2.2.2.2.2.1.1 hx hy).2; exact Int.le_trans this (by omega)⟩), ⟨by unfold oK at *; rw [b2, b3]; exact h2, by rw [b7]; exact h3, h4, h5, by rw [ecn]; exact h5'⟩, by rw [e32, ecn]; exact h6, h7.new sh hx hy t⟩, fun q => ?_⟩, b4, b5⟩
  have w := h8 (e32.symm.trans q)
  exact (w.tr (sh.sx ((ci_ne _ _ _ (by decide)).trans (e32.symm.trans q)))).w (by omega) (by omega) (by omega)
theorem PRX.add {H : HB} {x y : Int} {cD c d c1 : List Nat} {X : List (Nat × List Nat)} {P : List Nat} {lim : List Int} {v : Int32} {m a : Nat} {s0 s R : CS} {p g e : Int} {o u : Int32} (h : PRX H x y cD c d X P lim v m a s0 p g e s) (ha : ADD s R o u) (hx : x ≤ 10000) (hy : y ≤ 100) (hl : s.i 32 = 0 → cD.length ≤ 21) (hI : s.i 32 = 0 → ∀ (DT : Nat → List Nat) (KT : Nat → Prop), (∀ q ∈ X, (q.1 : Int) < tcI s ∧ DT q.1 = q.2 ∧ ¬ KT q.1) → IOK (tcI s) DT KT o u cD c1) : PRX H (x + 1) y c1 c d X P lim v m a s0 p g e R ∧ R.o = s.o ∧ R.ol = s.ol := by
  obtain ⟨⟨h1, ⟨h2, h3, h4, h5, h5'⟩, h6, h7⟩, h8⟩ := h
  have sh := ha.sh v
  obtain ⟨⟨b1, b2, b3, b4, b5, b6, b7, b8, b9, b10⟩, b11, b12, b13, b14, b15⟩ := (show ADD s R o u from ha)
  have ecn : cnI R = cnI s := by unfold cnI; rw [b11 53 (by decide)]
  have e32 : R.i 32 = s.i 32 := b11 32 (by decide)
  refine ⟨⟨⟨ha.cb h1, ⟨by unfold oK at *; rw [b2, b3]; exact h2, by rw [b7]; exact h3, h4, h5, by rw [ecn]; exact h5'⟩, by rw [e32, ecn]; exact h6, h7.add sh hx hy hl (fun q DT KT z _ _ => hI q DT KT z)⟩, fun q => ?_⟩, b4, b5⟩
  have w := h8 (e32.symm.trans q)
  exact (w.tr (sh.sx ((ci_ne _ _ _ (by decide)).trans (e32.symm.trans q)))).w (by omega) (by omega) (by omega)
theorem PRX.aim {H : HB} {x y : Int} {cD c d : List Nat} {X : List (Nat × List Nat)} {P P' : List Nat} {lim : List Int} {v : Int32} {m a : Nat} {s0 s R : CS} {p g e : Int} {t : Int32} (h : PRX H x y cD c d X P lim v m a s0 p g e s) (ha : AIM s R t) (hx : x ≤ 10000) (hy : y ≤ 100) (hT : s.i 32 = 0 → ∃ k : Nat, t.toInt = (k : Int) ∧ (k, cD) ∈ X) (hP : s.i 32 = 0 → ∀ k ∈ P, k ∈ P' ∨ (k : Int) = t.toInt) : PRX H x y cD c d X P' lim v m a s0 p g e R ∧ R.o = s.o ∧ R.ol = s.ol := by
  obtain ⟨⟨h1, ⟨h2, h3, h4, h5, h5'⟩, h6, h7⟩, h8⟩ := h
  have sh := ha.sh v
  obtain ⟨⟨b1, b2, b3, b4, b5, b6, b7, b8, b9, b10⟩, b11, b13, b14⟩ := (show AIM s R t from ha)
  have ecn : cnI R = cnI s := by unfold cnI; rw [b11]
  have e32 : R.i 32 = s.i 32 := by rw [b11]
  refine ⟨⟨⟨ha.cb h1 (fun q => (h7.2 ((ci_ne _ _ _ (by decide)).trans q)).1.tc0.2), ⟨by unfold oK at *; rw [b2, b3]; exact h2, by rw [b7]; exact h3, h4, h5, by rw [ecn]; exact h5'⟩, by rw [e32, ecn]; exact h6, h7.aim sh hx hy (fun q DT KT z _ => ?_) hP⟩, fun q => ?_⟩, b4, b5⟩
  · obtain ⟨k, k1, k2⟩ := hT q
    have w := z (k, cD) k2
    have ek : t.toInt.toNat = k := by omega
    rw [ek]
    exact ⟨by omega, by rw [k1]; exact w.1, w.2.1⟩
  · have w := h8 (e32.symm.trans q)
    exact (w.tr (sh.sx ((ci_ne _ _ _ (by decide)).trans (e32.symm.trans q)))).w (by omega) (by omega) (by omega)
theorem PRX.adv {H : HB} {x y x' y' : Int} {cD c d : List Nat} {X : List (Nat × List Nat)} {P : List Nat} {lim : List Int} {v : Int32} {m a : Nat} {s0 s R : CS} {p g e p' g' : Int} (h : PRX H x y cD c d X P lim v m a s0 p g e s) (ha : ADV s R) (hxy : s.i 32 = 0 → x + 100 * plI s ≤ x' + 100 * plI R ∧ y + eI s ≤ y' + eI R) (hpg : s.i 32 = 0 → plI s + p' ≤ plI R ∧ eI s + g' ≤ eI R) : PRX H x' y' cD c d X P lim v m a s0 (p + p') (g + g') e R ∧ R.o = s.o ∧ R.ol = s.ol := by
  obtain ⟨⟨h1, ⟨h2, h3, h4, h5, h5'⟩, h6, h7⟩, h8⟩ := h
  have sh := ha.sh v
  have t9 := ha.1.t9
  have e32 : R.i 32 = s.i 32 := ha.f32
  obtain ⟨⟨a1, a2, a3, a4, a5, a6, a7, a8, a9, a10⟩, b⟩ := t9
  have ecn : cnI R = cnI s := by unfold cnI; rw [b 53 (by omega) (by omega)]
  refine ⟨⟨⟨ha.1.t9.cb h1 ha.2.1 (fun q => ha.2.2.2.2 (h1.2.2.2.2.1 (by rw [← e32]; exact q))) (fun q => e32.symm.trans q), ⟨by unfold oK at *; rw [a2, a3]; exact h2, by rw [a7]; exact h3, h4, h5, by rw [ecn]; exact h5'⟩, by rw [e32, ecn]; exact h6, h7.adv sh hxy⟩, fun q => ?_⟩, a4, a5⟩
  have w := h8 (e32.symm.trans q)
  exact (w.tr (sh.smr.sx ((ci_ne _ _ _ (by decide)).trans (e32.symm.trans q)) (hpg (e32.symm.trans q)))).w (Int.le_refl _) (Int.le_refl _) (by omega)
/-- the row's cell gets other numbers -/
theorem PRX.cel {H : HB} {x y : Int} {cD c d : List Nat} {X : List (Nat × List Nat)} {P : List Nat} {lim : List Int} {v : Int32} {m a : Nat} {s0 s R : CS} {p g e : Int} {f : Nat → Int32} {l : Int64} (h : PRX H x y cD c d X P lim v m a s0 p g e s) (ho : OUV s R a f l) (hb : CBS H R) : PRX H x y cD c d X P lim v m a s0 p g e R := by
  obtain ⟨⟨h1, ⟨h2, h3, h4, h5, h5'⟩, h6, h7⟩, h8⟩ := h
  obtain ⟨⟨a1, a2, a3, a4, a5, a6, a7, a8, a9, a10⟩, a11, a12, a13⟩ := ho
  have ecn : cnI R = cnI s := by unfold cnI; rw [a10]
  have e32 : R.i 32 = s.i 32 := by rw [a10]
  have rq : s.i 32 = 0 → RSQ (CS.setI s 53 v) (CS.setI R 53 v) m := fun q i hi => by
    refine ⟨by rw [cr_setI, cr_setI, a5], fun b eb => ?_⟩
    have eb' : s.r 51 i = some b := eb
    have ne : b ≠ a := fun z => by
      rw [z] at eb'
      have := h1.1.2.2.1 i m a (by omega) h4 eb' h3
      omega
    exact ⟨by rw [co_setI, co_setI]; exact (a11 b ne).1, by rw [col_setI, col_setI]; exact (a11 b ne).2⟩
  have vi : ∀ j : Nat, (CS.setI R 53 v).i j = (CS.setI s 53 v).i j := fun j => by
    show va_up R.i 53 v j = va_up s.i 53 v j
    rw [a10]
  have cV : s.i 32 = 0 → (cnI (CS.setI s 53 v)).toNat = m := fun q => by
    have e : cnI (CS.setI s 53 v) = v.toInt := by unfold cnI; rw [ci_at]
    have := (h6 q).1
    omega
  refine ⟨⟨hb, ⟨by unfold oK at *; rw [a2, a3]; exact h2, by rw [a5]; exact h3, h4, h5, by rw [ecn]; exact h5'⟩, by rw [e32, ecn]; exact h6, ?_⟩, fun q => ?_⟩
  · refine h7.rsq (hb.sh v ⟨h5, by rw [ecn]; exact h5'⟩) (vi 32) (fun q => ⟨⟨?_, vi 20, vi 21, vi 50, vi 22⟩, ?_, vi 34, vi 38, vi 43, vi 44, vi 53, vi 56⟩)
    · rw [ca_setI, ca_setI, a9]; exact ⟨rfl, rfl, rfl, rfl, rfl⟩
    · have q' : s.i 32 = 0 := (ci_ne _ _ _ (by decide)).symm.trans q
      rw [cV q']; exact rq q'
  · have q' := e32.symm.trans q
    obtain ⟨w0, w1, w2, w3, w4, w5, w6, w7⟩ := h8 q'
    have epl : plI (CS.setI R 53 v) = plI (CS.setI s 53 v) := by unfold plI; rw [vi 44]
    have ee : eI (CS.setI R 53 v) = eI (CS.setI s 53 v) := by unfold eI; rw [epl, vi 43]
    have esg : sgI (CS.setI R 53 v) = sgI (CS.setI s 53 v) := by unfold sgI; rw [vi 34]
    have enm : nmI (CS.setI R 53 v) = nmI (CS.setI s 53 v) := by unfold nmI; rw [vi 50]
    have e0 : (cnI s0).toNat = m := by
      rw [← cV q']
      unfold cnI
      rw [w3.2.1]
    refine ⟨w0, by rw [epl, ee]; exact w1, by rw [esg]; exact w2, ⟨(vi 38).trans w3.1, (vi 53).trans w3.2.1, (vi 56).trans w3.2.2.1, (vi 22).trans w3.2.2.2⟩, by rw [enm]; exact w4, w5.tr (by rw [e0]; exact rq q'), fun n hn => ?_, fun i hi => ?_⟩
    · rw [← w6 n hn, ca_setI, ca_setI, a9]
    · rw [← (w7 i hi).1, ← (w7 i hi).2, ca_setI, ca_setI, a9]; exact ⟨rfl, rfl⟩
end
section
/-! the class's reading: a statement's row -/
theorem TTc.x {tc : Int} {DT : Nat → List Nat} {KT : Nat → Prop} {X : List (Nat × List Nat)} {t : Int32} {d : List Nat} {k : Nat} (hX : ∀ q ∈ X, (q.1 : Int) < tc ∧ DT q.1 = q.2 ∧ ¬ KT q.1) (ht : t.toInt = (k : Int)) (hk : (k, d) ∈ X) : TTc tc DT KT t d := by
  have y := hX (k, d) hk
  have ek : t.toInt.toNat = k := by omega
  exact ⟨by omega, by have := y.1; omega, by rw [ek]; exact y.2.1, by rw [ek]; exact y.2.2⟩
/-- what is known where a statement begins -/
def S0G (s : CS) : Prop := s.i 32 = 0 ∧ NR s (cnI s).toNat ∧ NG s ∧ NMB s ∧ (WCS s (cnI s).toNat ≤ eI s ∧ SGS s (cnI s).toNat ≤ sgI s) ∧ (0 ≤ cnI s ∧ 0 ≤ nmI s ∧ nmI s ≤ 128 ∧ 0 ≤ sgI s)
theorem JJ.s0g {H : HB} {x y : Int} {c : List Nat} {X : List (Nat × List Nat)} {P : List Nat} {lim : List Int} {s : CS} (h : JJ H x y c X P lim s) (nf : s.i 32 = 0) (ng : NG s) : S0G s := by
  obtain ⟨g, n⟩ := h.2 nf
  obtain ⟨D, DT, KT, h1, h2, h3, h4, h5, h6, h7, h8, h9, h10⟩ := g
  exact ⟨nf, h.1.2.2.2.2.2.2.1.2.2, ng, h10, ⟨n.2.2.2.2.2.1, n.2.2.2.2.2.2.1⟩, h.1.2.2.2.2.2.2.1.1, h.1.2.2.2.2.2.1.1, h.1.2.2.2.2.2.1.2, n.2.2.2.1.1⟩
theorem PRX.row {H : HB} {x y : Int} {cD c c' d d' : List Nat} {X : List (Nat × List Nat)} {P P' : List Nat} {lim lim' : List Int} {v : Int32} {m a : Nat} {s0 s T : CS} {p g e κ : Int} (h : PRX H x y cD c d X P lim v m a s0 p g e s) (nf : s.i 32 = 0) (h0 : S0G s0) (hT : T.a = s.a ∧ T.r = s.r ∧ T.o = s.o ∧ T.ol = s.ol) (hTi : ∀ j : Nat, j ≠ 36 → j ≠ 38 → T.i j = s.i j) (hb : CBS H T) (h305 : ¬ s.o a 0 = 305) (hR : ∀ (DT : Nat → List Nat) (KT : Nat → Prop), (∀ q ∈ X, (q.1 : Int) < tcI s ∧ DT q.1 = q.2 ∧ ¬ KT q.1) → (∀ n : Nat, (n : Int) < (s.o a 3).toInt → NMT (s.a 49 n) c) → ROW1 s DT KT a c c' lim' lim) (hP : ∀ k ∈ P, k ∈ P' ∨ OWS s a k) (hN : ∀ z : Int32, NMT z c → NMT z c') (hi : lmh lim' ≤ ccI s) (h30 : nmI s0 ≤ (s.o a 3).toInt ∧ (s.o a 3).toInt ≤ nmI s) (hd : (d'.length : Int) = dsI T ∧ d'.length ≤ 21) (hsg : sgn s a = e) (hk : κ ≤ g) (hg0 : 0 ≤ g) (hp : 1 ≤ p) (hq : ∀ V : CS, IQ V m → RSQ V T m → NR V m → IQ T (m + 1) ∧ WCS T (m + 1) ≤ WCS V m + κ) : JK H (x + 50) y cD c' d' X P' lim' T ∧ SRL s0 T := by
  obtain ⟨⟨h1, ⟨h2, h3, h4, h5, h5'⟩, h6, h7⟩, h8⟩ := h
  obtain ⟨t1, t2, t3, t4⟩ := hT
  obtain ⟨z0, z1, z2, z3, ⟨z4, z5⟩, z6, z7, z8, z9⟩ := h0
  have sx := h8 nf
  obtain ⟨vm, cm⟩ := h6 nf
  obtain ⟨V, hV⟩ : ∃ V, V = CS.setI s 53 v := ⟨_, rfl⟩
  have Vi : ∀ j : Nat, j ≠ 53 → V.i j = s.i j := fun j hj => by rw [hV]; exact ci_ne _ _ _ hj
  have V53 : cnI V = (m : Int) := by unfold cnI; rw [hV, ci_at]; exact vm
  have Va : V.a = s.a := by rw [hV]; exact ca_setI ..
  have Vr : V.r = s.r := by rw [hV]; exact cr_setI ..
  have Vo : V.o = s.o := by rw [hV]; exact co_setI ..
  have Vol : V.ol = s.ol := by rw [hV]; exact col_setI ..
  rw [← hV] at h7 sx
  clear hV
  have nfV : V.i 32 = 0 := (Vi 32 (by decide)).trans nf
  have e0 : cnI s0 = (m : Int) := by rw [← V53]; unfold cnI; rw [sx.2.2.2.1.2.1]
  have rV : RSQ V T m := fun i _ => ⟨by rw [t2, Vr], fun b _ => ⟨by rw [t3, Vo], by rw [t4, Vol]⟩⟩
  have nrV : NR V m := by
    have := h7.1.2.2.2.2.2.2.1.2.2
    rw [V53] at this
    exact this
  have ngV := sx.ng z2 z1
  have e0m : (cnI s0).toNat = m := by omega
  have rs0 := sx.2.2.2.2.2.1
  rw [e0m] at rs0 z1 z4 z5
  obtain ⟨i1, i2, i3, i4, i5⟩ := rs0.sums z1
  have scd : SCD V T := by
    refine ⟨⟨?_, ?_, ?_, ?_, ?_⟩, ?_, ?_, ?_, ?_⟩
    · rw [t1, Va]
    · rw [t1, Va]
    · rw [t1, Va]
    · rw [t1, Va]
    · rw [t1, Va]
    · rw [hTi 20 (by decide) (by decide), Vi 20 (by decide)]
    · rw [hTi 21 (by decide) (by decide), Vi 21 (by decide)]
    · rw [hTi 50 (by decide) (by decide), Vi 50 (by decide)]
    · rw [hTi 22 (by decide) (by decide), Vi 22 (by decide)]
  have etV : tcI V = tcI s := by unfold tcI; rw [Vi 21 (by decide)]
  have enV : nmI V = nmI s := by unfold nmI; rw [Vi 50 (by decide)]
  have ecV : ccI V = ccI s := by unfold ccI; rw [Vi 22 (by decide)]
  have etT : tcI T = tcI s := by unfold tcI; rw [hTi 21 (by decide) (by decide)]
  have ha : T.r 51 m = some a := by rw [t2]; exact h3
  have n := (h7.2 nfV).2
  have iqV := n.2.2.2.2.1
  have len := h7.len nfV ngV
  rw [V53] at iqV len
  have em : ((m : Int)).toNat = m := by omega
  rw [em] at iqV len
  obtain ⟨iq, wc⟩ := hq V iqV rV nrV
  obtain ⟨q1, q2, q3, q4, q5⟩ := rV.put nrV ha
  have sgT : sgn T a = e := by rw [← hsg]; unfold sgn; rw [t3]
  have esx := sx.2.2.1
  have cnT : cnI T = (m : Int) + 1 := by unfold cnI; rw [hTi 53 (by decide) (by decide)]; exact cm
  have row : ∀ (DT : Nat → List Nat) (KT : Nat → Prop), ROW1 s DT KT a c c' lim' lim → ROW1 T DT KT a c c' lim' lim := fun DT KT q => by
    unfold ROW1 at *
    rw [t3, t1, etT]
    exact q
  refine ⟨h7.row nfV hb V53.symm h4 scd cnT ha rV (by have := arx.nn T a; omega) (fun DT KT qX qN => row DT KT (hR DT KT (by rw [← etV]; exact qX) (fun n hn => by rw [← Va]; exact qN n (by omega)))) (fun k hk' => ?_) hN (by rw [ecV]; exact hi) ⟨by rw [t3, enV]; exact h30.2, fun j b hj eb => ?_⟩ ⟨?_, ?_, ?_⟩ hd iq ?_ ?_ (Or.inl ?_), ?_⟩
  · rcases hP k hk' with w | w
    · exact Or.inl w
    · right; unfold OWS at *; rw [t3]; exact w
  · have w := rs0 j (by omega)
    have w1 := w.1.symm.trans eb
    have w2 := (z3 j b (by omega) w1).1
    rw [t3, (w.2 b w1).1]
    omega
  · rw [hTi 34 (by decide) (by decide), Vi 34 (by decide)]
  · rw [hTi 43 (by decide) (by decide), Vi 43 (by decide)]
  · rw [hTi 44 (by decide) (by decide), Vi 44 (by decide)]
  · have := sx.2.1.2
    rw [i1] at wc
    omega
  · rw [q2, i2, sgT]
    omega
  · rw [hTi 56 (by decide) (by decide), Vi 56 (by decide)]
  · have epl : plI T = plI V := by unfold plI; rw [hTi 44 (by decide) (by decide), Vi 44 (by decide)]
    have ee : eI T = eI V := by unfold eI; rw [epl, hTi 43 (by decide) (by decide), Vi 43 (by decide)]
    have esg : sgI T = sgI V := by unfold sgI; rw [hTi 34 (by decide) (by decide), Vi 34 (by decide)]
    have cm1 : (cnI T).toNat = m + 1 := by omega
    have s1 := sx.2.1
    refine ⟨z0, ⟨by omega, by omega⟩, ?_, by omega, ?_, fun n hn => ?_, fun i hi' => ?_, ?_, ?_, ?_, fun _ _ b eb => ?_⟩
    · rw [cm1, q2, i2, sgT, e0m, esg, esx]
      omega
    · rw [e0m]
      exact rs0.tr rV
    · rw [t1, ← Va]; exact sx.2.2.2.2.2.2.1 n hn
    · rw [t1, ← Va]; exact sx.2.2.2.2.2.2.2 i hi'
    · rw [hTi 56 (by decide) (by decide), ← Vi 56 (by decide)]; exact sx.2.2.2.1.2.2.1
    · rw [hTi 22 (by decide) (by decide), ← Vi 22 (by decide)]; exact sx.2.2.2.1.2.2.2
    · have e : nmI T = nmI V := by unfold nmI; rw [hTi 50 (by decide) (by decide), Vi 50 (by decide)]
      rw [e]; exact sx.2.2.2.2.1
    · rw [e0m, ha] at eb
      cases eb
      rw [t3]; exact h305
/-- the fields of a row that was just made -/
theorem PRX.of {N : Nat} {H : HB} {x y : Int} {cD c d : List Nat} {X : List (Nat × List Nat)} {P : List Nat} {lim : List Int} {s0 s : CS} {p g e : Int} (h : JK H x y cD c d X P lim s) (hs : s.i 32 = 0 → SX p g e s0 s) (x1 x2 x3 : Int32) (h3 : 0 ≤ x3.toInt ∧ x3.toInt ≤ 128) : ok (f_X6_push N s x1 x2 x3) (fun R => ∃ (v : Int32) (a m : Nat), R.1 = some a ∧ PRX H x y cD c d X P lim v m a s0 p g e R.2 ∧ (R.2.o a 0 = x1 ∧ R.2.o a 2 = x2 ∧ R.2.o a 3 = x3 ∧ R.2.ol a = 0) ∧ (R.2.o a 9 = -1 ∧ R.2.o a 10 = -1 ∧ R.2.o a 11 = -1) ∧ (∀ j : Nat, j ≠ 53 → j ≠ 54 → R.2.i j = s.i j) ∧ R.2.a = s.a) := by
  refine ok_imp (q_pushK h x1 x2 x3 h3) (fun R hR => ?_)
  obtain ⟨a, m, r1, pr, ps⟩ := hR
  refine ⟨_, a, m, r1, ⟨pr, fun q => ?_⟩, ps.2.2.2.2.2.2.2.1, ps.2.2.2.2.2.2.2.2.2, ps.2.1, ps.1.1⟩
  obtain ⟨⟨p1, p2, p3⟩, p4, p5, p6, p7, p8, p9, p10⟩ := ps
  obtain ⟨k1, ⟨k2, k3, k4, k5, k6⟩, k7, k8⟩ := pr
  have hv0 : cnI s ≤ 399 → (if (399 : Int32) < s.i 53 then (399 : Int32) else s.i 53) = s.i 53 := fun l => if_neg (fun c => by
    have l2 := lt_int c
    rw [show (399 : Int32).toInt = 399 by decide] at l2
    unfold cnI at l
    omega)
  generalize (if (399 : Int32) < s.i 53 then (399 : Int32) else s.i 53) = v at *
  have e32 : R.2.i 32 = s.i 32 := p4 32 (by decide) (by decide)
  have sx := hs (e32.symm.trans q)
  obtain ⟨vm, cm⟩ := k7 q
  have qV : (CS.setI R.2 53 v).i 32 = 0 := (ci_ne _ _ _ (by decide)).trans q
  have n1 := (k8.2 qV).1
  have n : ∀ j : Nat, j ≠ 53 → j ≠ 54 → (CS.setI R.2 53 v).i j = s.i j := fun j j1 j2 => (ci_ne _ _ _ j1).trans (p4 j j1 j2)
  have e53 : v = s.i 53 := hv0 (by
    have nn := (h.2 (e32.symm.trans q)).2
    have b := nn.2.2.2.2.1.bound (by
      have := nn.2.2.2.2.2.1
      have e := eI.ge s
      have a := h.1.2.2.1.2.1
      have b := h.1.2.2.1.1
      have : plI s ≤ 900 := by unfold plI; omega
      omega) (by have := nn.2.2.2.2.2.2.1; have := nn.2.2.2.1.2; omega)
    omega)
  have cn : cnI s = (m : Int) := by rw [← vm, e53]; rfl
  have sy : SX 0 0 0 s (CS.setI R.2 53 v) := by
    refine ⟨e32.symm.trans q, ?_, ?_, ⟨n 38 (by decide) (by decide), (ci_at _ _ _).trans e53, n 56 (by decide) (by decide), n 22 (by decide) (by decide)⟩, ?_, fun i hi => ?_, fun _ _ => by rw [ca_setI, p1], fun _ _ => by rw [ca_setI, p1]; exact ⟨rfl, rfl⟩⟩
    · have epl : plI (CS.setI R.2 53 v) = plI s := by unfold plI; rw [n 44 (by decide) (by decide)]
      have ee : eI (CS.setI R.2 53 v) = eI s := by unfold eI; rw [epl, n 43 (by decide) (by decide)]
      omega
    · unfold sgI; rw [n 34 (by decide) (by decide)]; omega
    · unfold nmI; rw [n 50 (by decide) (by decide)]; exact Int.le_refl _
    · have ne : i ≠ m := by omega
      refine ⟨by rw [cr_setI]; exact p7 i ne, fun b eb => ?_⟩
      have w := p9 i b (by omega) ne eb
      exact ⟨by rw [co_setI]; exact w.2.1, by rw [col_setI]; exact w.2.2⟩
  exact (sx.tr sy).w (by omega) (by omega) (by omega)
end
section
/-! the class's reading: blocks, if, while -/
def STQ (H : HB) (x y : Int) (X : List (Nat × List Nat)) (P : List Nat) (lim : List Int) (s R : CS) : Prop := CBS H R ∧ (R.i 32 = 0 → (∃ c' : List Nat, JJ H x y c' X P lim R) ∧ SRL s R)
theorem STQ.flt {H : HB} {x y : Int} {X : List (Nat × List Nat)} {P : List Nat} {lim : List Int} {s t R : CS} (h : CBS H t) (hf : FLD t R) : STQ H x y X P lim s R := ⟨(JJ.flt (x := x) (y := y) (c := []) (X := X) (P := P) (lim := lim) h hf).1, fun q => absurd q hf.2.2.2.1⟩
theorem STQ.pl {H : HB} {x y p g : Int} {c : List Nat} {X : List (Nat × List Nat)} {P : List Nat} {lim : List Int} {s R : CS} (h : JJ H x y c X P lim R) (h0 : S0G s) (hs : R.i 32 = 0 → SX p g 0 s R) (hp : 1 ≤ p) (hg : 0 ≤ g) : STQ H x y X P lim s R := ⟨h.1, fun q => ⟨⟨c, h⟩, (hs q).srl hp hg h0.2.1⟩⟩
theorem STQ.w {H : HB} {x y x' y' : Int} {X : List (Nat × List Nat)} {P : List Nat} {lim : List Int} {s R : CS} (h : STQ H x y X P lim s R) (hx : x ≤ x') (hy : y ≤ y') : STQ H x' y' X P lim s R := ⟨h.1, fun q => ⟨by
  obtain ⟨⟨c', j⟩, -⟩ := h.2 q
  exact ⟨c', j.w hx hy⟩, (h.2 q).2⟩⟩
theorem CBS.pl {H : HB} {s : CS} (h : CBS H s) : 0 ≤ plI s ∧ plI s ≤ 900 := by
  have a := h.2.2.1.2.1
  have b := h.2.2.1.1
  unfold plI
  omega
theorem q_cin {N : Nat} {H : HB} (hN : 1000 ≤ N) {k : Int} {E1 : CS → Option (Unit × CS)} {E2 : CS → Option (Int32 × CS)} (hE2 : EC2 H k E2) {x y : Int} {c : List Nat} {X : List (Nat × List Nat)} {P : List Nat} {lim : List Int} {s : CS} (hx : x ≤ 4000) (hy : y + 3 * k ≤ 90 ∧ 0 ≤ k) (h : JJ H x y c X P lim s) (hk : s.i 32 = 0 → 23 - sgI s ≤ k) : ok (f_X7_conditionInside N E1 E2 s) (fun R => (JJ H (x - 250) y c X P lim R.2 ∧ (R.2.i 32 = 0 → EXR s R.2)) ∧ bo R.1) := by
  unfold f_X7_conditionInside
  refine q_br hN h 40 41 (by decide) (by decide) (B := bo) (fun R hR hM => ok_imp (q_condition (E1 := E1) hN hE2 (x - 100) y c X P lim R (by omega) (by omega) hR (fun q => by
      have a := hM q
      have := hk a.1
      rw [a.2.2.1]; omega)) (fun T hT => ⟨⟨hT.1.1.w (by omega) (Int.le_refl _), hT.1.2⟩, hT.2⟩)) (K := fun a r => if a = 0 ∨ a = 1 then some (a, r) else none) (fun a R hB hR hR2 => ok_chk hB (ok_some ⟨⟨hR.w (by omega) (Int.le_refl _), hR2⟩, hB⟩))
/-- an aim that is known in X -/
theorem JK.aimX {H : HB} {x y : Int} {cD c d : List Nat} {X : List (Nat × List Nat)} {P P' : List Nat} {lim : List Int} {s R : CS} {t : Int32} (h : JK H x y cD c d X P lim s) (ha : AIM s R t) (hx : x ≤ 10000) (hy : y ≤ 100) (hT : s.i 32 = 0 → ∃ k : Nat, t.toInt = (k : Int) ∧ (k, cD) ∈ X) (hP : s.i 32 = 0 → ∀ k ∈ P, k ∈ P' ∨ (k : Int) = t.toInt) : JK H x y cD c d X P' lim R := h.aim ha hx hy (fun q DT KT z _ => by
  obtain ⟨k, k1, k2⟩ := hT q
  have w := z (k, cD) k2
  have ek : t.toInt.toNat = k := by omega
  rw [ek]
  exact ⟨by omega, by rw [k1]; exact w.1, w.2.1⟩) hP
theorem NTG.t {H : HB} {x y : Int} {cD c d : List Nat} {X : List (Nat × List Nat)} {P : List Nat} {lim : List Int} {s : CS} {r : Int32} (h : JK H x y cD c d X P lim s) (nf : s.i 32 = 0) (e : r = s.i 21) : r.toInt = ((tcI s).toNat : Int) := by
  have := (h.2 nf).1.tc0.1
  rw [e]
  show tcI s = _
  omega
theorem JJ.ds {H : HB} {x y : Int} {c : List Nat} {X : List (Nat × List Nat)} {P : List Nat} {lim : List Int} {s : CS} (h : JJ H x y c X P lim s) (nf : s.i 32 = 0) : (s.i 38).toInt = (c.length : Int) ∧ c.length ≤ 21 := by
  have n := (h.2 nf).2.2.2.2.2.2.2.2.1
  exact ⟨n.1.symm, n.2⟩
theorem CBS.nm {H : HB} {s : CS} (h : CBS H s) : 0 ≤ (s.i 50).toInt ∧ (s.i 50).toInt ≤ 128 := h.2.2.2.2.2.1
/-- a row that keeps the context -/
theorem PRX.end {H : HB} {x y : Int} {c : List Nat} {X X' : List (Nat × List Nat)} {P P' : List Nat} {lim lim' : List Int} {v : Int32} {m a : Nat} {s0 s : CS} {p g e κ : Int} (h : PRX H x y c c c X P lim v m a s0 p g e s) (h0 : S0G s0) (h5 : ¬ s.o a 0 = 305) (hX : ∀ q ∈ X', q ∈ X) (hR : s.i 32 = 0 → ∀ (DT : Nat → List Nat) (KT : Nat → Prop), (∀ q ∈ X, (q.1 : Int) < tcI s ∧ DT q.1 = q.2 ∧ ¬ KT q.1) → (∀ n : Nat, (n : Int) < (s.o a 3).toInt → NMT (s.a 49 n) c) → ROW1 s DT KT a c c lim' lim) (hP : s.i 32 = 0 → ∀ k ∈ P, k ∈ P' ∨ OWS s a k) (hi : s.i 32 = 0 → lmh lim' ≤ ccI s) (h30 : s.i 32 = 0 → nmI s0 ≤ (s.o a 3).toInt ∧ (s.o a 3).toInt ≤ nmI s) (hsg : sgn s a = e) (hk : κ ≤ g) (hg0 : 0 ≤ g) (hp : 1 ≤ p) (hq : s.i 32 = 0 → ∀ V : CS, IQ V m → RSQ V s m → NR V m → IQ s (m + 1) ∧ WCS s (m + 1) ≤ WCS V m + κ) : STQ H (x + 50) y X' P' lim' s0 s := by
  refine ⟨h.1.1, fun nf => ?_⟩
  have hd := ((h.1.2.2.2.2 ((ci_ne _ _ _ (by decide)).trans nf)).2).2.2.2.2.2.2.2.1
  have hd' : (c.length : Int) = dsI s ∧ c.length ≤ 21 := ⟨hd.1.trans (by unfold dsI; rw [ci_ne _ _ _ (by decide)]), hd.2⟩
  obtain ⟨j, r⟩ := h.row nf h0 ⟨rfl, rfl, rfl, rfl⟩ (fun _ _ _ => rfl) h.1.1 h5 (hR nf) (hP nf) (fun _ z => z) (hi nf) (h30 nf) hd' hsg hk hg0 hp (hq nf)
  exact ⟨⟨c, JK.j (j.sub hX)⟩, r⟩
theorem q_block {N : Nat} {H : HB} (hN : 1000 ≤ N) {x y : Int} {c : List Nat} {X : List (Nat × List Nat)} {P : List Nat} {lim : List Int} {s : CS} (hx : x ≤ 4000) (hy : y ≤ 90) (h : JJ H x y c X P lim s) (h0 : S0G s) : ok ((f_X1_open N s 123).bind fun p35 => (f_X6_push N p35.2 301 (p35.2.i 38) (p35.2.i 50)).bind fun p39 => oCase p39.1 (some ((), p39.2)) (fun a44 => some ((), p39.2))) (fun R => STQ H (x - 20) y X P lim s R.2) := by
  refine ok_bind (q_open hN h.1 123) (fun b hb => ?_)
  obtain ⟨jb, mb⟩ := h.k.op (by decide) hb
  refine ok_bind (PRX.of (N := N) jb (fun q => (mb q).sx) 301 _ _ jb.1.nm) (fun r hr => ?_)
  obtain ⟨v, a, m, r1, px, ⟨o0, o2, o3, ol⟩, ⟨o9, o10, o11⟩, ri, ra⟩ := hr
  rw [r1]
  show ok (some ((), r.2)) _
  refine ok_some ((PRX.end (κ := 0) px h0 (by rw [o0]; decide) (fun _ z => z) (fun nf DT KT qX qN => ⟨?_, qN, ?_⟩) (fun nf k hk => Or.inl hk) (fun nf => ?_) (fun nf => ?_) ?_ (by omega) (by omega) (by omega) (fun nf V v1 v2 v3 => ?_)).w (by omega) (Int.le_refl _))
  · rw [o2, ← ri 38 (by decide) (by decide)]
    have hd := ((px.1.2.2.2.2 ((ci_ne _ _ _ (by decide)).trans nf)).2).2.2.2.2.2.2.2.1.1
    exact hd.symm.trans rfl |>.symm ▸ rfl
  · exact Or.inl ⟨Or.inr o0, rfl, rfl⟩
  · have := ((px.1.2.2.2.2 ((ci_ne _ _ _ (by decide)).trans nf)).1).lim
    exact this
  · rw [o3]
    have e : b.2.i 50 = r.2.i 50 := (ri 50 (by decide) (by decide)).symm
    refine ⟨?_, by rw [e]; exact Int.le_refl _⟩
    have w := (px.2 nf).2.2.2.2.1
    rw [e]
    exact w
  · unfold sgn; rw [o0]; rfl
  · have := v1.block v2 v3 px.1.2.1.2.1 o0
    exact ⟨this.1, by rw [this.2]; omega⟩
end
section
/-! the class's reading: if, while, do, labels -/
theorem PRX.ds {H : HB} {x y : Int} {cD c d : List Nat} {X : List (Nat × List Nat)} {P : List Nat} {lim : List Int} {v : Int32} {m a : Nat} {s0 s : CS} {p g e : Int} (h : PRX H x y cD c d X P lim v m a s0 p g e s) (nf : s.i 32 = 0) : (s.i 38).toInt = (d.length : Int) ∧ d.length ≤ 21 := by
  have hd := ((h.1.2.2.2.2 ((ci_ne _ _ _ (by decide)).trans nf)).2).2.2.2.2.2.2.2.1
  refine ⟨?_, hd.2⟩
  rw [hd.1]
  unfold dsI
  rw [ci_ne _ _ _ (by decide)]
theorem PRX.lm {H : HB} {x y : Int} {cD c d : List Nat} {X : List (Nat × List Nat)} {P : List Nat} {lim : List Int} {v : Int32} {m a : Nat} {s0 s : CS} {p g e : Int} (h : PRX H x y cD c d X P lim v m a s0 p g e s) (nf : s.i 32 = 0) : lmh lim ≤ ccI s := ((h.1.2.2.2.2 ((ci_ne _ _ _ (by decide)).trans nf)).1).lim
theorem PRX.nm {H : HB} {x y : Int} {cD c d : List Nat} {X : List (Nat × List Nat)} {P : List Nat} {lim : List Int} {v : Int32} {m a : Nat} {s0 s : CS} {p g e : Int} (h : PRX H x y cD c d X P lim v m a s0 p g e s) (nf : s.i 32 = 0) : nmI s0 ≤ nmI s := (h.2 nf).2.2.2.2.1
theorem PRX.tc {H : HB} {x y : Int} {cD c d : List Nat} {X : List (Nat × List Nat)} {P : List Nat} {lim : List Int} {v : Int32} {m a : Nat} {s0 s : CS} {p g e : Int} (h : PRX H x y cD c d X P lim v m a s0 p g e s) (nf : s.i 32 = 0) {r : Int32} (er : r = s.i 21) : r.toInt = ((tcI s).toNat : Int) := by
  have : 0 ≤ tcI s := ((h.1.2.2.2.2 ((ci_ne _ _ _ (by decide)).trans nf)).1).tc0.1
  rw [er]
  show tcI s = _
  omega
theorem IQ.pl {s R : CS} {n a : Nat} (h : IQ s n) (hs : RSQ s R n) (nr : NR s n) (ha : R.r 51 n = some a) {v : Int32} (e : R.o a 0 = v) (hv : ¬ v = 300 ∧ ¬ v = 301 ∧ ¬ v = 302 ∧ ¬ v = 303) : IQ R (n + 1) ∧ WCS R (n + 1) ≤ WCS s n + 3 := by
  have := h.plain hs nr ha (by rw [e]; exact ⟨hv.1, hv.2.1, hv.2.2.1, fun z => hv.2.2.2 z.1⟩)
  exact ⟨this.1, by rw [this.2]; omega⟩
theorem q_beginIf {N : Nat} {H : HB} (hN : 1000 ≤ N) {k : Int} {E1 : CS → Option (Unit × CS)} {E2 : CS → Option (Int32 × CS)} (hE2 : EC2 H k E2) {x y : Int} {c : List Nat} {X : List (Nat × List Nat)} {P : List Nat} {lim : List Int} {s : CS} (hx : x ≤ 4000) (hy : y + 3 * k ≤ 87 ∧ 0 ≤ k) (h : JJ H x y c X P lim s) (h0 : S0G s) (hk : 24 - sgI s ≤ k) (ht : s.i 43 = 203) : ok (f_X7_beginIf N E1 E2 s) (fun R => STQ H (x - 20) y X P lim s R.2) := by
  unfold f_X7_beginIf
  have nf := h0.1
  have tw : 200 ≤ (s.i 43).toInt := by rw [ht]; decide
  refine ok_bind (q_newTarget N s) (fun p hp => ?_)
  obtain ⟨t1, t2⟩ := hp
  have j1 := h.k.new t1 (by omega) (by omega) c
  have et := NTG.t h.k nf t2
  have f1 := t1.f
  obtain ⟨t, ht'⟩ : ∃ t, t = (tcI s).toNat := ⟨_, rfl⟩
  rw [← ht'] at j1 et
  refine ok_bind (q_advC hN j1.1) (fun q hq => ?_)
  have wd := hq.wd j1.1.2.2.1 (Or.inl (by rw [f1.2.1]; exact tw))
  have j2 : JK H (x - 200) (y - 2) c c c ((t, c) :: X) (t :: P) lim q.2 := j1.adv hq (fun _ => by omega)
  have x2 : q.2.i 32 = 0 → SX 2 3 0 s q.2 := fun z => ((t1.sx nf).tr (hq.smr.sx (hq.f32.symm.trans z) wd)).w (by omega) (by omega) (by omega)
  refine ok_bind (q_cin (E1 := E1) hN hE2 (by omega) (by omega) j2.j (fun z => by have := (x2 z).2.2.1; omega)) (fun r hr => ?_)
  obtain ⟨⟨j3, x3⟩, b3⟩ := hr
  refine ok_bind (q_add N r.2 31 p.1) (fun u hu => ?_)
  have j4 := j3.add hu (by omega) (by omega) (fun _ DT KT z _ _ => IOK.jmp (by decide) et (List.mem_cons_self ..) z)
  have x4 : u.2.i 32 = 0 → SX 3 3 0 s u.2 := fun z => by
    have z' := hu.f32.1.symm.trans z
    exact (((x2 (x3 z').1).tr (x3 z').sx).tr (hu.sx z')).w (by omega) (by omega) (by omega)
  refine ok_bind (PRX.of (N := N) j4.k x4 203 _ _ j4.1.nm) (fun w hw => ?_)
  obtain ⟨v, a, m, r1, px, ⟨o0, o2, o3, ol⟩, ⟨o9, o10, o11⟩, ri, ra⟩ := hw
  rw [r1]
  show ok (if oK w.2 a 0 then some ((), CS.setO w.2 a 10 p.1) else none) _
  refine ok_chk px.1.2.1.1 (ok_some ?_)
  have ou := (OUV.rf w.2 a).o 10 p.1
  have cT := px.1.1.o a 10 p.1 (by omega) (by omega)
  have py := px.cel ou cT
  have To : (CS.setO w.2 a 10 p.1).o a = upd (w.2.o a) 10 p.1 := ou.2.2.1
  have Ti : (CS.setO w.2 a 10 p.1).i = w.2.i := ou.1.2.2.2.2.2.2.2.2.2
  show STQ H (x - 20) y X P lim s (CS.setO w.2 a 10 p.1)
  generalize CS.setO w.2 a 10 p.1 = T at *
  have T0 : T.o a 0 = 203 := by rw [To]; exact o0
  have T2 : T.o a 2 = u.2.i 38 := by rw [To]; exact o2
  have T3 : T.o a 3 = u.2.i 50 := by rw [To]; exact o3
  have T10 : T.o a 10 = p.1 := by rw [To]; rfl
  have e38 : u.2.i 38 = T.i 38 := by rw [Ti]; exact (ri 38 (by decide) (by decide)).symm
  have e50 : u.2.i 50 = T.i 50 := by rw [Ti]; exact (ri 50 (by decide) (by decide)).symm
  refine (PRX.end (κ := 3) (X' := X) py h0 (by rw [T0]; decide) (fun _ z => List.mem_cons_of_mem _ z) (fun nf DT KT qX qN => ⟨?_, qN, ?_⟩) (fun nf k hk => ?_) (fun nf => py.lm nf) (fun nf => ?_) ?_ (by omega) (by omega) (by omega) (fun nf V v1 v2 v3 => ?_)).w (by omega) (by omega)
  · rw [T2, e38]; exact (py.ds nf).1
  · refine Or.inr (Or.inr (Or.inl ⟨T0, rfl, ?_, rfl⟩))
    rw [T10]
    exact TTc.x qX et (List.mem_cons_self ..)
  · rcases List.mem_cons.mp hk with e | e
    · right; right
      exact ⟨Or.inl T0, by rw [T10, e]; exact et⟩
    · exact Or.inl e
  · rw [T3, e50]
    exact ⟨py.nm nf, Int.le_refl _⟩
  · unfold sgn; rw [T0]; rfl
  · exact v1.pl v2 v3 py.1.2.1.2.1 T0 (by decide)
/-- a loop's row -/
theorem q_pushLoop {N : Nat} {H : HB} {x y : Int} {cD c d : List Nat} {X : List (Nat × List Nat)} {P : List Nat} {lim : List Int} {s0 s : CS} {p g e : Int} (h : JK H x y cD c d X P lim s) (hs : s.i 32 = 0 → SX p g e s0 s) (x1 x2 x3 : Int32) : ok (f_X7_pushLoop N s x1 x2 x3) (fun R => ∃ (v : Int32) (a m : Nat), R.1 = some a ∧ PRX H x y cD c d X P lim v m a s0 p g e R.2 ∧ (R.2.o a 0 = x1 ∧ R.2.o a 2 = R.2.i 38 ∧ R.2.o a 3 = R.2.i 50) ∧ (R.2.o a 9 = x3 ∧ R.2.o a 10 = x2) ∧ (∀ j : Nat, j ≠ 53 → j ≠ 54 → R.2.i j = s.i j) ∧ R.2.a = s.a) := by
  unfold f_X7_pushLoop
  refine ok_bind (PRX.of (N := N) h hs x1 _ _ h.1.nm) (fun w hw => ?_)
  obtain ⟨v, a, m, r1, px, ⟨o0, o2, o3, ol⟩, ⟨o9, o10, o11⟩, ri, ra⟩ := hw
  rw [r1]
  show ok (if oK w.2 a 0 then some ((some a), CS.setO (CS.setO w.2 a 10 x2) a 9 x3) else none) _
  refine ok_chk px.1.2.1.1 (ok_some ?_)
  have ou := ((OUV.rf w.2 a).o 10 x2).o 9 x3
  have cT := (px.1.1.o a 10 x2 (by omega) (by omega)).o a 9 x3 (by omega) (by omega)
  have py := px.cel ou cT
  have To : (CS.setO (CS.setO w.2 a 10 x2) a 9 x3).o a = upd (upd (w.2.o a) 10 x2) 9 x3 := ou.2.2.1
  have Ti : (CS.setO (CS.setO w.2 a 10 x2) a 9 x3).i = w.2.i := ou.1.2.2.2.2.2.2.2.2.2
  have Ta : (CS.setO (CS.setO w.2 a 10 x2) a 9 x3).a = w.2.a := ou.1.2.2.2.2.2.2.2.2.1
  refine ⟨v, a, m, rfl, py, ⟨?_, ?_, ?_⟩, ⟨?_, ?_⟩, fun j j1 j2 => ?_, Ta.trans ra⟩
  · exact (congrFun To 0).trans o0
  · refine ((congrFun To 2).trans o2).trans ?_
    rw [show (some a, (w.2.setO a 10 x2).setO a 9 x3).2.i = w.2.i from Ti]
    exact (ri 38 (by decide) (by decide)).symm
  · refine ((congrFun To 3).trans o3).trans ?_
    rw [show (some a, (w.2.setO a 10 x2).setO a 9 x3).2.i = w.2.i from Ti]
    exact (ri 50 (by decide) (by decide)).symm
  · exact (congrFun To 9).trans rfl
  · exact (congrFun To 10).trans rfl
  · rw [show (some a, (w.2.setO a 10 x2).setO a 9 x3).2.i = w.2.i from Ti]
    exact ri j j1 j2
theorem PRX.loop {H : HB} {x y : Int} {c : List Nat} {X X1 : List (Nat × List Nat)} {P P1 : List Nat} {lim : List Int} {v : Int32} {m a : Nat} {s0 T : CS} {p g : Int} (py : PRX H x y c c c X1 P1 lim v m a s0 p g 0 T) (h0 : S0G s0) (hX : ∀ q ∈ X, q ∈ X1) (T0 : T.o a 0 = 205 ∨ T.o a 0 = 207 ∨ T.o a 0 = 304) (T2 : T.o a 2 = T.i 38) (T3 : T.i 32 = 0 → nmI s0 ≤ (T.o a 3).toInt ∧ (T.o a 3).toInt ≤ nmI T) (T9 : T.i 32 = 0 → ∃ k : Nat, (T.o a 9).toInt = (k : Int) ∧ (k, c) ∈ X1) (T10 : T.i 32 = 0 → ∃ k : Nat, (T.o a 10).toInt = (k : Int) ∧ (k, c) ∈ X1) (hP : T.i 32 = 0 → ∀ k ∈ P1, k ∈ P ∨ (T.o a 9).toInt = (k : Int)) (hg : 3 ≤ g) (hp : 1 ≤ p) : STQ H (x + 50) y X P lim s0 T := by
  have ns : ∃ w : Int32, T.o a 0 = w ∧ (w = 205 ∨ w = 207 ∨ w = 304) := ⟨_, rfl, T0⟩
  obtain ⟨w, w1, w2⟩ := ns
  refine PRX.end (κ := 3) (X' := X) py h0 (by rw [w1]; rcases w2 with e | e | e <;> rw [e] <;> decide) hX (fun nf DT KT qX qN => ⟨?_, qN, ?_⟩) (fun nf k hk => ?_) (fun nf => py.lm nf) T3 ?_ (by omega) (by omega) (by omega) (fun nf V v1 v2 v3 => ?_)
  · rw [T2]; exact (py.ds nf).1
  · obtain ⟨k9, e9, m9⟩ := T9 nf
    obtain ⟨k10, e10, m10⟩ := T10 nf
    exact Or.inr (Or.inr (Or.inr (Or.inr (Or.inl ⟨T0, rfl, TTc.x qX e9 m9, TTc.x qX e10 m10, rfl⟩))))
  · rcases hP nf k hk with z | z
    · exact Or.inl z
    · right; left
      rw [w1]
      refine ⟨?_, ?_, ?_, ?_, z⟩ <;> rcases w2 with e | e | e <;> rw [e] <;> decide
  · unfold sgn
    rw [w1]
    rcases w2 with e | e | e <;> rw [e] <;> rfl
  · refine v1.pl v2 v3 py.1.2.1.2.1 w1 ?_
    rcases w2 with e | e | e <;> rw [e] <;> decide
theorem q_beginWhile {N : Nat} {H : HB} (hN : 1000 ≤ N) {k : Int} {E1 : CS → Option (Unit × CS)} {E2 : CS → Option (Int32 × CS)} (hE2 : EC2 H k E2) {x y : Int} {c : List Nat} {X : List (Nat × List Nat)} {P : List Nat} {lim : List Int} {s : CS} (hx : x ≤ 4000) (hy : y + 3 * k ≤ 87 ∧ 0 ≤ k) (h : JJ H x y c X P lim s) (h0 : S0G s) (hk : 24 - sgI s ≤ k) (ht : s.i 43 = 205) : ok (f_X7_beginWhile N E1 E2 s) (fun R => STQ H (x - 20) y X P lim s R.2) := by
  unfold f_X7_beginWhile
  have nf := h0.1
  have tw : 200 ≤ (s.i 43).toInt := by rw [ht]; decide
  refine ok_bind (q_newTarget N s) (fun p hp => ?_)
  obtain ⟨t1, t2⟩ := hp
  have j1 := h.k.new t1 (by omega) (by omega) c
  have et := NTG.t h.k nf t2
  have f1 := t1.f
  obtain ⟨t, ht'⟩ : ∃ t, t = (tcI s).toNat := ⟨_, rfl⟩
  rw [← ht'] at j1 et
  refine ok_bind (q_newTarget N p.2) (fun p' hp' => ?_)
  obtain ⟨u1, u2⟩ := hp'
  have nf1 := f1.1.trans nf
  have j1' := j1.new u1 (by omega) (by omega) c
  have eu := NTG.t j1 nf1 u2
  have f2 := u1.f
  obtain ⟨u, hu'⟩ : ∃ u, u = (tcI p.2).toNat := ⟨_, rfl⟩
  rw [← hu'] at j1' eu
  refine ok_bind (q_advC hN j1'.1) (fun q hq => ?_)
  have wd := hq.wd j1'.1.2.2.1 (Or.inl (by rw [f2.2.1, f1.2.1]; exact tw))
  have j2 : JK H (x - 200) (y - 1) c c c ((u, c) :: (t, c) :: X) (u :: t :: P) lim q.2 := j1'.adv hq (fun _ => by omega)
  have x2 : q.2.i 32 = 0 → SX 2 3 0 s q.2 := fun z => (((t1.sx nf).tr (u1.sx nf1)).tr (hq.smr.sx (hq.f32.symm.trans z) wd)).w (by omega) (by omega) (by omega)
  have mt : (t, c) ∈ (u, c) :: (t, c) :: X := List.mem_cons_of_mem _ (List.mem_cons_self ..)
  have mu : (u, c) ∈ (u, c) :: (t, c) :: X := List.mem_cons_self ..
  refine ok_bind (q_aim N q.2 p.1) (fun z hz => ?_)
  have j2' : JK H (x - 200) (y - 1) c c c ((u, c) :: (t, c) :: X) (u :: P) lim z.2 := j2.aimX hz (by omega) (by omega) (fun _ => ⟨t, et, mt⟩) (fun _ k hk => by
    rcases List.mem_cons.mp hk with e | e
    · left; rw [e]; exact List.mem_cons_self ..
    · rcases List.mem_cons.mp e with e | e
      · right; rw [e]; exact et.symm
      · left; exact List.mem_cons_of_mem _ e)
  have x2' : z.2.i 32 = 0 → SX 2 3 0 s z.2 := fun w => ((x2 (hz.f.1.symm.trans w)).tr (hz.sx (hz.f.1.symm.trans w))).w (by omega) (by omega) (by omega)
  refine ok_bind (q_cin (E1 := E1) hN hE2 (by omega) (by omega) j2'.j (fun w => by have := (x2' w).2.2.1; omega)) (fun r hr => ?_)
  obtain ⟨⟨j3, x3⟩, b3⟩ := hr
  refine ok_bind (q_add N r.2 31 p'.1) (fun d hd => ?_)
  have j4 := j3.add hd (by omega) (by omega) (fun _ DT KT w _ _ => IOK.jmp (by decide) eu mu w)
  refine ok_bind (q_add N d.2 51 0) (fun b hb => ?_)
  have j5 := j4.add hb (by omega) (by omega) (fun _ _ _ _ _ _ => IOK.fall (by decide))
  have x4 : b.2.i 32 = 0 → SX 3 3 0 s b.2 := fun w => by
    have w1 := hb.f32.1.symm.trans w
    have w2 := hd.f32.1.symm.trans w1
    exact ((((x2' (x3 w2).1).tr (x3 w2).sx).tr (hd.sx w2)).tr (hb.sx w1)).w (by omega) (by omega) (by omega)
  refine ok_bind (q_pushLoop (N := N) j5.k x4 205 p.1 p'.1) (fun w hw => ?_)
  obtain ⟨v, a, m, r1, px, ⟨o0, o2, o3⟩, ⟨o9, o10⟩, ri, ra⟩ := hw
  rw [r1]
  show ok (if r.1 = 0 ∨ r.1 = 1 then (if oK w.2 a 0 then some ((), CS.setO w.2 a 7 r.1) else none) else none) _
  refine ok_chk b3 (ok_chk px.1.2.1.1 (ok_some ?_))
  have ou := (OUV.rf w.2 a).o 7 r.1
  have cT := px.1.1.o a 7 r.1 (fun _ => b3) (by omega)
  have py := px.cel ou cT
  have To : (CS.setO w.2 a 7 r.1).o a = upd (w.2.o a) 7 r.1 := ou.2.2.1
  have Ti : (CS.setO w.2 a 7 r.1).i = w.2.i := ou.1.2.2.2.2.2.2.2.2.2
  show STQ H (x - 20) y X P lim s (CS.setO w.2 a 7 r.1)
  generalize CS.setO w.2 a 7 r.1 = T at *
  have T9 : T.o a 9 = p'.1 := by rw [To]; exact o9
  refine (PRX.loop py h0 (fun _ z => List.mem_cons_of_mem _ (List.mem_cons_of_mem _ z)) (Or.inl (by rw [To]; exact o0)) (by rw [To, Ti]; exact o2) (fun nf => ?_) (fun nf => ⟨u, by rw [T9]; exact eu, mu⟩) (fun nf => ⟨t, by rw [To]; exact (congrArg Int32.toInt o10).trans et, mt⟩) (fun nf k hk => ?_) (by omega) (by omega)).w (by omega) (by omega)
  · have e : T.o a 3 = T.i 50 := by rw [To, Ti]; exact o3
    rw [e]
    exact ⟨py.nm nf, Int.le_refl _⟩
  · rcases List.mem_cons.mp hk with e | e
    · right; rw [e, T9]; exact eu
    · exact Or.inl e
end
section
/-! the class's reading: do; rows are looked up -/
theorem q_beginDo {N : Nat} {H : HB} (hN : 1000 ≤ N) {x y : Int} {c : List Nat} {X : List (Nat × List Nat)} {P : List Nat} {lim : List Int} {s : CS} (hx : x ≤ 4000) (hy : y ≤ 90) (h : JJ H x y c X P lim s) (h0 : S0G s) (ht : s.i 43 = 206) : ok (f_X7_beginDo N s) (fun R => STQ H (x - 20) y X P lim s R.2) := by
  unfold f_X7_beginDo
  have nf := h0.1
  have tw : 200 ≤ (s.i 43).toInt := by rw [ht]; decide
  refine ok_bind (q_newTarget N s) (fun p hp => ?_)
  obtain ⟨t1, t2⟩ := hp
  have j1 := h.k.new t1 (by omega) (by omega) c
  have et := NTG.t h.k nf t2
  have f1 := t1.f
  obtain ⟨t, ht'⟩ : ∃ t, t = (tcI s).toNat := ⟨_, rfl⟩
  rw [← ht'] at j1 et
  refine ok_bind (q_newTarget N p.2) (fun p' hp' => ?_)
  obtain ⟨u1, u2⟩ := hp'
  have nf1 := f1.1.trans nf
  have j1' := j1.new u1 (by omega) (by omega) c
  have eu := NTG.t j1 nf1 u2
  have f2 := u1.f
  obtain ⟨u, hu'⟩ : ∃ u, u = (tcI p.2).toNat := ⟨_, rfl⟩
  rw [← hu'] at j1' eu
  have nf2 := f2.1.trans nf1
  refine ok_bind (q_pushLoop (N := N) j1' (fun _ => (t1.sx nf).tr (u1.sx nf1)) 206 p.1 p'.1) (fun w hw => ?_)
  obtain ⟨v, a, m, r1, px, ⟨o0, o2, o3⟩, ⟨o9, o10⟩, ri, ra⟩ := hw
  rw [r1]
  have nfw : w.2.i 32 = 0 := (ri 32 (by decide) (by decide)).trans nf2
  show ok ((f_X0_newTarget N w.2).bind fun p19 => if oK p19.2 a 0 then (f_X9_advance N (CS.setO p19.2 a 11 p19.1)).bind fun p24 => if oK p24.2 a 0 then (f_X0_aim N p24.2 (CS.o p24.2 a 11)).bind fun p29 => (f_X0_add N p29.2 51 0).bind fun p33 => some ((), p33.2) else none else none) _
  refine ok_bind (q_newTarget N w.2) (fun n hn => ?_)
  obtain ⟨n1, n2⟩ := hn
  have en := px.tc nfw n2
  obtain ⟨pn, pno, pnl⟩ := px.new n1 (by omega) (by omega) c
  obtain ⟨b, hb'⟩ : ∃ b, b = (tcI w.2).toNat := ⟨_, rfl⟩
  rw [← hb'] at pn en
  refine ok_chk pn.1.2.1.1 ?_
  have ou := (OUV.rf n.2 a).o 11 n.1
  have cT := pn.1.1.o a 11 n.1 (by omega) (by omega)
  have pT := pn.cel ou cT
  have To : (CS.setO n.2 a 11 n.1).o a = upd (w.2.o a) 11 n.1 := by
    have := ou.2.2.1
    rw [pno] at this
    exact this
  have Ti : (CS.setO n.2 a 11 n.1).i = n.2.i := ou.1.2.2.2.2.2.2.2.2.2
  generalize CS.setO n.2 a 11 n.1 = T at *
  have eT : ∀ j : Nat, j ≠ 53 → j ≠ 54 → j ≠ 21 → T.i j = s.i j := fun j j1 j2 j3 => by
    rw [Ti, n1.2.1 j j3, ri j j1 j2, u1.2.1 j j3, t1.2.1 j j3]
  refine ok_bind (q_advC hN pT.1.1) (fun q hq => ?_)
  have wd := hq.wd pT.1.1.2.2.1 (Or.inl (by rw [eT 43 (by decide) (by decide) (by decide)]; exact tw))
  obtain ⟨pq, pqo, pql⟩ := pT.adv (x' := x - 200) (y' := y) hq (fun _ => by omega) (fun _ => wd)
  refine ok_chk pq.1.2.1.1 ?_
  have q11 : q.2.o a 11 = n.1 := by rw [pqo, To]; rfl
  rw [q11]
  have mb : (b, c) ∈ (b, c) :: (u, c) :: (t, c) :: X := List.mem_cons_self ..
  have mu : (u, c) ∈ (b, c) :: (u, c) :: (t, c) :: X := List.mem_cons_of_mem _ (List.mem_cons_self ..)
  have mt : (t, c) ∈ (b, c) :: (u, c) :: (t, c) :: X := List.mem_cons_of_mem _ (List.mem_cons_of_mem _ (List.mem_cons_self ..))
  refine ok_bind (q_aim N q.2 n.1) (fun z hz => ?_)
  obtain ⟨pz, pzo, pzl⟩ := pq.aim (P' := u :: t :: P) hz (by omega) (by omega) (fun _ => ⟨b, en, mb⟩) (fun _ k hk => by
    rcases List.mem_cons.mp hk with e | e
    · right; rw [e]; exact en.symm
    · exact Or.inl e)
  refine ok_bind (q_add N z.2 51 0) (fun f hf => ok_some ?_)
  obtain ⟨py, pyo, pyl⟩ := pz.add (c1 := c) hf (by omega) (by omega) (fun q => (pz.ds q).2) (fun _ _ _ _ => IOK.fall (by decide))
  show STQ H (x - 20) y X P lim s f.2
  have Fo : f.2.o a = upd (w.2.o a) 11 n.1 := by rw [pyo, pzo, pqo, To]
  have Fi : ∀ j : Nat, j ≠ 20 → ¬ (42 ≤ j ∧ j ≤ 45) → f.2.i j = T.i j := fun j j1 j2 => by
    rw [hf.2.1 j j1, hz.2.1, hq.1.2 j (by omega) (by omega) (by omega) (by omega)]
  have F0 : f.2.o a 0 = 206 := by rw [Fo]; exact o0
  have F9 : f.2.o a 9 = p'.1 := by rw [Fo]; exact o9
  have F10 : f.2.o a 10 = p.1 := by rw [Fo]; exact o10
  have F11 : f.2.o a 11 = n.1 := by rw [Fo]; rfl
  have w2i : ∀ j : Nat, j ≠ 20 → j ≠ 21 → ¬ (42 ≤ j ∧ j ≤ 45) → f.2.i j = w.2.i j := fun j j1 j2 j3 => by
    rw [Fi j j1 j3, Ti, n1.2.1 j j2]
  have F2 : f.2.o a 2 = f.2.i 38 := by rw [Fo, w2i 38 (by decide) (by decide) (by decide)]; exact o2
  have F3 : f.2.o a 3 = f.2.i 50 := by rw [Fo, w2i 50 (by decide) (by decide) (by decide)]; exact o3
  refine (PRX.end (κ := 3) (X' := X) py h0 (by rw [F0]; decide) (fun _ z => List.mem_cons_of_mem _ (List.mem_cons_of_mem _ (List.mem_cons_of_mem _ z))) (fun nf DT KT qX qN => ⟨?_, qN, ?_⟩) (fun nf k hk => ?_) (fun nf => py.lm nf) (fun nf => ?_) ?_ (by omega) (by omega) (by omega) (fun nf V v1 v2 v3 => ?_)).w (by omega) (by omega)
  · rw [F2]; exact (py.ds nf).1
  · refine Or.inr (Or.inr (Or.inr (Or.inr (Or.inr (Or.inl ⟨F0, rfl, ?_, ?_, ?_, rfl⟩)))))
    · rw [F9]; exact TTc.x qX eu mu
    · rw [F10]; exact TTc.x qX et mt
    · rw [F11]; exact TTc.x qX en mb
  · rcases List.mem_cons.mp hk with e | e
    · right; left
      rw [F0, F9, e]
      exact ⟨by decide, by decide, by decide, by decide, eu⟩
    · rcases List.mem_cons.mp e with e | e
      · right; right
        rw [F0, F10, e]
        exact ⟨by decide, et⟩
      · exact Or.inl e
  · rw [F3]
    exact ⟨py.nm nf, Int.le_refl _⟩
  · unfold sgn; rw [F0]; rfl
  · exact v1.pl v2 v3 py.1.2.1.2.1 F0 (by decide)
/-- a row by its number -/
theorem q_row {N : Nat} {H : HB} {s : CS} (h : CBS H s) (x1 : Int32) : ok (f_X6_row N s x1) (fun R => R.2 = s ∧ ((R.1 = none ∧ ¬ (0 ≤ x1.toInt ∧ x1.toInt < cnI s)) ∨ ∃ a : Nat, R.1 = some a ∧ (0 ≤ x1.toInt ∧ x1.toInt < cnI s) ∧ s.r 51 x1.toInt.toNat = some a ∧ oK s a 0)) := by
  unfold f_X6_row f_X6_row_30
  have cn := h.2.2.2.2.2.2.1
  have e400 : (400 : Int32).toInt = 400 := by decide
  refine ok_ite (fun c1 => ok_some ⟨rfl, Or.inl ⟨rfl, fun q => ?_⟩⟩) (fun c1 => ok_ite (fun c2 => ok_some ⟨rfl, Or.inl ⟨rfl, fun q => ?_⟩⟩) (fun c2 => ok_ite (fun c3 => ok_some ⟨rfl, Or.inl ⟨rfl, fun q => ?_⟩⟩) (fun c3 => ?_)))
  · have := lt_int c1; rw [z_t0] at this; omega
  · have l : cnI s ≤ x1.toInt := le_int c2; omega
  · have := le_int c3; rw [e400] at this; have := cn.2.1; omega
  · have l1 := le_int (Int32.not_lt.mp c1)
    rw [z_t0] at l1
    have l2 : x1.toInt < cnI s := lt_int (Int32.not_le.mp c2)
    have l3 := lt_int (Int32.not_le.mp c3)
    rw [e400] at l3
    refine ok_chk ⟨l1, by omega⟩ ?_
    have cl := clampI l1
    have ec : x1.toNatClampNeg = x1.toInt.toNat := by omega
    rw [ec]
    obtain ⟨a, ea⟩ := cn.2.2 x1.toInt.toNat (by omega)
    rw [ea]
    exact ok_some ⟨rfl, Or.inr ⟨a, rfl, ⟨l1, l2⟩, rfl, h.1.2.1 _ a (by omega) ea⟩⟩
def isLp (v : Int32) : Prop := v = 205 ∨ v = 206 ∨ v = 207 ∨ v = 304
theorem q_isLoop {N : Nat} {s : CS} {a : Nat} (h : oK s a 0) : ok (f_X5_isLoop N s a) (fun R => R.2 = s ∧ ((R.1 = 0 ∧ ¬ isLp (s.o a 0)) ∨ (R.1 = 1 ∧ isLp (s.o a 0)))) := by
  unfold f_X5_isLoop f_X5_isLoop_40
  refine ok_chk h (ok_ite (fun c1 => ok_some ⟨rfl, Or.inr ⟨rfl, Or.inl c1⟩⟩) (fun c1 => ok_ite (fun c2 => ok_some ⟨rfl, Or.inr ⟨rfl, Or.inr (Or.inl c2)⟩⟩) (fun c2 => ok_ite (fun c3 => ok_some ⟨rfl, Or.inr ⟨rfl, Or.inr (Or.inr (Or.inl c3))⟩⟩) (fun c3 => ok_ite (fun c4 => ok_some ⟨rfl, Or.inr ⟨rfl, Or.inr (Or.inr (Or.inr c4))⟩⟩) (fun c4 => ok_some ⟨rfl, Or.inl ⟨rfl, fun q => ?_⟩⟩)))))
  rcases q with q | q | q | q
  · exact c1 q
  · exact c2 q
  · exact c3 q
  · exact c4 q
theorem lg_ne {x y : Int64} (h : ¬ lg_cmp x y = 0) : ¬ x = y := fun e => h (by
  unfold lg_cmp
  rw [if_neg (by rw [e]; exact Int64.lt_irrefl), if_pos e])
/-- a label is looked for -/
theorem q_lab7 {N : Nat} {H : HB} {s : CS} (h : CBS H s) (x1 : Int64) : ∀ (n : Nat) (x3 : Int32), x3.toInt < cnI s → x3.toInt - (s.i 56).toInt < n → (∀ i a : Nat, x3.toInt < (i : Int) → (i : Int) < cnI s → s.r 51 i = some a → s.o a 0 = 303 → ¬ s.ol a = x1) → ok (f_X6_labelled_7 N (n + 1) s x1 x3) (fun R => R.2 = s ∧ ((R.1 < 0 ∧ ∀ i a : Nat, (s.i 56).toInt < (i : Int) → (i : Int) < cnI s → s.r 51 i = some a → s.o a 0 = 303 → ¬ s.ol a = x1) ∨ (∃ a : Nat, 0 ≤ R.1.toInt ∧ (s.i 56).toInt < R.1.toInt ∧ R.1.toInt < cnI s ∧ s.r 51 R.1.toInt.toNat = some a ∧ s.o a 0 = 303)))
  | n, x3, hc, hn, hi => by
    show ok (b_X6_labelled_7 N (f_X6_labelled_7 N n) s x1 x3) _
    unfold b_X6_labelled_7
    refine ok_ite (fun c => ok_some ⟨rfl, Or.inl ⟨by show (-1 : Int32) < 0; decide, fun i a q1 q2 q3 q4 => ?_⟩⟩) (fun c => ?_)
    · have := le_int c
      exact hi i a (by omega) q2 q3 q4
    have l := lt_int (Int32.not_le.mp c)
    have cn := h.2.2.2.2.2.2.1
    have em : (-1 : Int32).toInt = -1 := by decide
    have bl := Int32.le_toInt (s.i 56)
    have es : (x3 + -1).toInt = x3.toInt - 1 := by rw [toInt_add] <;> rw [em] <;> omega
    obtain ⟨n', rfl⟩ : ∃ n', n = n' + 1 := ⟨n - 1, by omega⟩
    refine ok_bind (q_row (N := N) h x3) (fun p hp => ?_)
    obtain ⟨p1, p2⟩ := hp
    rw [p1]
    rcases p2 with ⟨p2, p3⟩ | ⟨a, p2, p3, p4, p5⟩
    · rw [p2]
      show ok (f_X6_labelled_7 N (n' + 1) s x1 (x3 + -1)) _
      refine q_lab7 h x1 n' (x3 + -1) (by omega) (by omega) (fun i a q1 q2 q3 q4 => ?_)
      by_cases z : (i : Int) = x3.toInt
      · exact absurd ⟨by omega, by omega⟩ p3
      · exact hi i a (by omega) q2 q3 q4
    · rw [p2]
      have go : (s.o a 0 = 303 → ¬ s.ol a = x1) → ok (f_X6_labelled_7 N (n' + 1) s x1 (x3 + -1)) (fun R => R.2 = s ∧ ((R.1 < 0 ∧ ∀ i a : Nat, (s.i 56).toInt < (i : Int) → (i : Int) < cnI s → s.r 51 i = some a → s.o a 0 = 303 → ¬ s.ol a = x1) ∨ (∃ a : Nat, 0 ≤ R.1.toInt ∧ (s.i 56).toInt < R.1.toInt ∧ R.1.toInt < cnI s ∧ s.r 51 R.1.toInt.toNat = some a ∧ s.o a 0 = 303))) := fun hne => by
        refine q_lab7 h x1 n' (x3 + -1) (by omega) (by omega) (fun i b q1 q2 q3 q4 => ?_)
        by_cases z : (i : Int) = x3.toInt
        · have e : x3.toInt.toNat = i := by omega
          rw [e, q3] at p4
          cases p4
          exact hne q4
        · exact hi i b (by omega) q2 q3 q4
      show ok (if oK s a 0 then (if (CS.o s a 0) = 303 then (if (lg_cmp (CS.ol s a) x1) = 0 then some (x3, s) else f_X6_labelled_7 N (n' + 1) s x1 (x3 + -1)) else f_X6_labelled_7 N (n' + 1) s x1 (x3 + -1)) else none) _
      refine ok_chk p5 (ok_ite (fun c1 => ok_ite (fun c2 => ok_some ⟨rfl, Or.inr ⟨a, p3.1, l, p3.2, p4, c1⟩⟩) (fun c2 => go (fun _ => lg_ne c2))) (fun c1 => go (fun z => absurd z c1)))
  termination_by n => n
theorem q_labelled {N : Nat} {H : HB} (hN : 10000000000 ≤ N) {s : CS} (h : CBS H s) (x1 : Int64) : ok (f_X6_labelled N s x1) (fun R => R.2 = s ∧ ((R.1 < 0 ∧ ∀ i a : Nat, (s.i 56).toInt < (i : Int) → (i : Int) < cnI s → s.r 51 i = some a → s.o a 0 = 303 → ¬ s.ol a = x1) ∨ (∃ a : Nat, 0 ≤ R.1.toInt ∧ (s.i 56).toInt < R.1.toInt ∧ R.1.toInt < cnI s ∧ s.r 51 R.1.toInt.toNat = some a ∧ s.o a 0 = 303))) := by
  unfold f_X6_labelled
  obtain ⟨N', rfl⟩ : ∃ N', N = N' + 1 := ⟨N - 1, by omega⟩
  have cn := h.2.2.2.2.2.2.1
  have c0 : 0 ≤ (s.i 53).toInt := cn.1
  have c4 : (s.i 53).toInt ≤ 400 := cn.2.1
  have e1 : (1 : Int32).toInt = 1 := by decide
  have bl := Int32.le_toInt (s.i 56)
  have es : (s.i 53 - 1).toInt = (s.i 53).toInt - 1 := by rw [toInt_sub] <;> rw [e1] <;> omega
  refine q_lab7 h x1 N' (s.i 53 - 1) ?_ (by omega) (fun i a q1 q2 => ?_)
  · show _ < (s.i 53).toInt
    omega
  · have q2 : (i : Int) < (s.i 53).toInt := q2
    omega
end
section
/-! the class's reading: a label -/
theorem KLS.tr {s : CS} {v : Nat} : ∀ {n : Nat}, KLS s n v = true → ∃ i : Nat, i < n ∧ s.o (rowA s i) 0 = 303 ∧ (s.ol (rowA s i)).toInt = (v : Int) + 97 ∧ ∀ j : Nat, i < j → j < n → ¬ s.o (rowA s j) 0 = 302
  | 0, h => by cases h
  | n + 1, h => by
    unfold KLS at h
    by_cases c2 : s.o (rowA s n) 0 = 302
    · rw [if_pos c2] at h; cases h
    · rw [if_neg c2] at h
      have low : KLS s n v = true → ∃ i : Nat, i < n + 1 ∧ s.o (rowA s i) 0 = 303 ∧ (s.ol (rowA s i)).toInt = (v : Int) + 97 ∧ ∀ j : Nat, i < j → j < n + 1 → ¬ s.o (rowA s j) 0 = 302 := fun q => by
        obtain ⟨i, i1, i2, i3, i4⟩ := KLS.tr q
        refine ⟨i, by omega, i2, i3, fun j j1 j2 => ?_⟩
        by_cases e : j = n
        · rw [e]; exact c2
        · exact i4 j j1 (by omega)
      by_cases c3 : s.o (rowA s n) 0 = 303 ∧ 97 ≤ (s.ol (rowA s n)).toInt ∧ (s.ol (rowA s n)).toInt ≤ 122
      · rw [if_pos c3] at h
        rcases Bool.or_eq_true_iff.mp h with q | q
        · have q' := of_decide_eq_true q
          exact ⟨n, by omega, c3.1, by omega, fun j j1 j2 => by omega⟩
        · exact low q
      · rw [if_neg c3] at h
        exact low h
theorem KLS.new {s : CS} {x1 : Int64} (h9 : -1 ≤ (s.i 56).toInt ∧ (s.i 56).toInt < cnI s ∧ ∀ a : Nat, 0 ≤ (s.i 56).toInt → s.r 51 (s.i 56).toInt.toNat = some a → s.o a 0 = 302) (nr : NR s (cnI s).toNat) (hx : 97 ≤ x1.toInt ∧ x1.toInt ≤ 122) (hf : ∀ i a : Nat, (s.i 56).toInt < (i : Int) → (i : Int) < cnI s → s.r 51 i = some a → s.o a 0 = 303 → ¬ s.ol a = x1) : KLS s (cnI s).toNat (x1.toInt - 97).toNat = false := by
  refine Bool.eq_false_iff.mpr (fun q => ?_)
  obtain ⟨i, i1, i2, i3, i4⟩ := KLS.tr q
  obtain ⟨a, ea⟩ := nr i i1
  have er := rowA.of ea
  rw [er] at i2 i3
  by_cases z : (s.i 56).toInt < (i : Int)
  · exact hf i a z (by omega) ea i2 (Int64.toInt_inj.mp (by omega))
  · obtain ⟨b, eb⟩ := nr (s.i 56).toInt.toNat (by omega)
    have o2 := h9.2.2 b (by omega) eb
    by_cases y : (s.i 56).toInt = (i : Int)
    · have e : (s.i 56).toInt.toNat = i := by omega
      rw [e, ea] at eb
      cases eb
      rw [i2] at o2
      exact absurd o2 (by decide)
    · refine i4 (s.i 56).toInt.toNat (by omega) (by omega) ?_
      rw [rowA.of eb]
      exact o2
theorem q_named73 {N : Nat} {H : HB} (hN : 1000 ≤ N) {E1 : CS → Option (Unit × CS)} {E2 : CS → Option (Int32 × CS)} {x y : Int} {c : List Nat} {X : List (Nat × List Nat)} {P : List Nat} {lim : List Int} {s0 s : CS} {κ : Int} {x1 : Int64} (hx : x ≤ 4000) (hy : y ≤ 90) (h : JJ H x y c X P lim s) (h0 : S0G s0) (hκ : 0 ≤ κ) (hs : s.i 32 = 0 → SX 1 κ 0 s0 s ∧ s.i 43 = 58) (hq : s.i 32 = 0 → ∀ (V T : CS) (m a : Nat), T.r 51 m = some a → T.o a 0 = 303 → T.ol a = x1 → (m : Int) = cnI s0 → KLS V m = KLS s0 m → IQ V m → RSQ V T m → NR V m → IQ T (m + 1) ∧ WCS T (m + 1) ≤ WCS V m + κ) : ok (f_X7_named_73 N E1 E2 s x1) (fun R => STQ H (x - 40) (y + 1) X P lim s0 R.2) := by
  unfold f_X7_named_73
  refine ok_bind (q_advC hN h.1) (fun q hq' => ?_)
  have tk : s.i 32 = 0 → plI s + 1 ≤ plI q.2 ∧ eI s ≤ eI q.2 := fun z => hq'.tk1 h.1.2.2.1 (by rw [(hs z).2]; decide)
  have j1 : JJ H (x - 100) y c X P lim q.2 := h.adv hq' (fun z => by have := tk z; omega)
  have x1' : q.2.i 32 = 0 → SX 1 κ 0 s0 q.2 := fun z => by
    have z' := hq'.f32.symm.trans z
    have t := tk z'
    exact ((hs z').1.tr (hq'.smr.sx (p := 0) (g := 0) z' (by omega))).w (by omega) (by omega) (by omega)
  refine ok_bind (PRX.of (N := N) j1.k x1' 303 _ _ j1.1.nm) (fun w hw => ?_)
  obtain ⟨v, a, m, r1, px, ⟨o0, o2, o3, ol⟩, ⟨o9, o10, o11⟩, ri, ra⟩ := hw
  rw [r1]
  show ok (if oK w.2 a 0 then (f_X0_newTarget N (CS.setOl w.2 a x1)).bind fun p26 => if oK p26.2 a 0 then some ((), CS.setO p26.2 a 9 p26.1) else none else none) _
  refine ok_chk px.1.2.1.1 ?_
  have ou1 := (OUV.rf w.2 a).l x1
  have c1 := px.1.1.ol a x1
  have p1 := px.cel ou1 c1
  have U1o : (CS.setOl w.2 a x1).o = w.2.o := co_setOl ..
  have U1l : (CS.setOl w.2 a x1).ol a = x1 := ou1.2.2.2
  have U1i : (CS.setOl w.2 a x1).i = w.2.i := ci_setOl ..
  generalize CS.setOl w.2 a x1 = U at *
  refine ok_bind (q_newTarget N U) (fun n hn => ?_)
  obtain ⟨n1, n2⟩ := hn
  obtain ⟨pn, pno, pnl⟩ := p1.new n1 (by omega) (by omega) c
  have en : U.i 32 = 0 → n.1.toInt = ((tcI U).toNat : Int) := fun z => p1.tc z n2
  obtain ⟨b, hb'⟩ : ∃ b, b = (tcI U).toNat := ⟨_, rfl⟩
  rw [← hb'] at pn en
  refine ok_chk pn.1.2.1.1 (ok_some ?_)
  have ou := (OUV.rf n.2 a).o 9 n.1
  have cT := pn.1.1.o a 9 n.1 (by omega) (by omega)
  have py := pn.cel ou cT
  have To : (CS.setO n.2 a 9 n.1).o a = upd (w.2.o a) 9 n.1 := by
    have := ou.2.2.1
    rw [pno, U1o] at this
    exact this
  have Tl : (CS.setO n.2 a 9 n.1).ol a = x1 := by
    have := ou.2.2.2
    rw [pnl, U1l] at this
    exact this
  have Ti : ∀ j : Nat, j ≠ 21 → (CS.setO n.2 a 9 n.1).i j = w.2.i j := fun j hj => by
    rw [show (CS.setO n.2 a 9 n.1).i = n.2.i from ou.1.2.2.2.2.2.2.2.2.2, n1.2.1 j hj, U1i]
  show STQ H (x - 40) (y + 1) X P lim s0 (CS.setO n.2 a 9 n.1)
  generalize CS.setO n.2 a 9 n.1 = T at *
  have nU : T.i 32 = 0 → U.i 32 = 0 := fun z => by rw [U1i]; rw [Ti 32 (by decide)] at z; exact z
  have T0 : T.o a 0 = 303 := by rw [To]; exact o0
  have T2 : T.o a 2 = T.i 38 := by rw [To, Ti 38 (by decide)]; exact o2.trans (ri 38 (by decide) (by decide)).symm
  have T3 : T.o a 3 = T.i 50 := by rw [To, Ti 50 (by decide)]; exact o3.trans (ri 50 (by decide) (by decide)).symm
  have T9 : T.o a 9 = n.1 := by rw [To]; rfl
  refine (PRX.end (κ := κ) (X' := X) py h0 (by rw [T0]; decide) (fun _ z => List.mem_cons_of_mem _ z) (fun nf DT KT qX qN => ⟨?_, qN, ?_⟩) (fun nf k hk => ?_) (fun nf => py.lm nf) (fun nf => ?_) ?_ (by omega) (by omega) (by omega) (fun nf V v1 v2 v3 => ?_)).w (by omega) (by omega)
  · rw [T2]; exact (py.ds nf).1
  · refine Or.inr (Or.inr (Or.inr (Or.inl ⟨Or.inr T0, rfl, ?_, rfl⟩)))
    rw [T9]; exact TTc.x qX (en (nU nf)) (List.mem_cons_self ..)
  · rcases List.mem_cons.mp hk with e | e
    · right; left
      rw [T0, T9, e]
      exact ⟨by decide, by decide, by decide, by decide, en (nU nf)⟩
    · exact Or.inl e
  · rw [T3]
    exact ⟨py.nm nf, Int.le_refl _⟩
  · unfold sgn; rw [T0]; rfl
  · have sx := py.2 nf
    have e0 : cnI s0 = (m : Int) := by
      have e1 := sx.2.2.2.1.2.1
      have e2 := (py.1.2.2.1 nf).1
      unfold cnI
      rw [← e1, ci_at]
      exact e2
    have e0m : (cnI s0).toNat = m := by omega
    have rs := sx.2.2.2.2.2.1
    have nr := h0.2.1
    rw [e0m] at rs nr
    have k1 := (rs.sums nr).2.2.2.2
    have k2 := (v2.sums v3).2.2.2.2
    have r3 : RSQ T (CS.setI T 53 v) m := fun i _ => ⟨by rw [cr_setI], fun b _ => ⟨by rw [co_setI], by rw [col_setI]⟩⟩
    have nrT : NR T m := fun i hi => by
      obtain ⟨b, eb⟩ := v3 i hi
      exact ⟨b, (v2 i hi).1.trans eb⟩
    have k3 := (r3.sums nrT).2.2.2.2
    have nfs : s.i 32 = 0 := by
      have z := nU nf
      rw [U1i, ri 32 (by decide) (by decide)] at z
      exact hq'.f32.symm.trans z
    exact hq nfs V T m a py.1.2.1.2.1 T0 Tl e0.symm (by rw [← k1, k3, k2]) v1 v2 v3
end
section
/-! the class's reading: names that get something -/
theorem q_expK {N : Nat} {H : HB} (hN : 1000 ≤ N) {x y : Int} {cD c d : List Nat} {X : List (Nat × List Nat)} {P : List Nat} {lim : List Int} {s : CS} (h : JK H x y cD c d X P lim s) (v : Int32) (hv : ¬ v = 0) : ok (f_X1_expect N s v) (fun R => JK H (x - 100) y cD c d X P lim R.2 ∧ (R.2.i 32 = 0 → EXR s R.2)) := by
  refine ok_imp (q_expect hN h.1 v) (fun R hR => ?_)
  rcases hR with hf | ⟨e, ha⟩
  · exact ⟨JK.flt h.1 hf, fun q => absurd q hf.2.2.2.1⟩
  · have tk := ha.tk1 h.1.2.2.1 (by rw [e]; exact hv)
    exact ⟨h.adv ha (fun _ => by omega), fun q => ⟨ha.f32.symm.trans q, tk, ha.smr⟩⟩
theorem q_expJ {N : Nat} {H : HB} (hN : 1000 ≤ N) {x y : Int} {c : List Nat} {X : List (Nat × List Nat)} {P : List Nat} {lim : List Int} {s : CS} (h : JJ H x y c X P lim s) (v : Int32) (hv : ¬ v = 0) : ok (f_X1_expect N s v) (fun R => JJ H (x - 100) y c X P lim R.2 ∧ (R.2.i 32 = 0 → EXR s R.2)) := q_expK hN h.k v hv
theorem q_ch72 {N : Nat} {H : HB} (hN : 1000 ≤ N) {k : Int} {E1 : CS → Option (Unit × CS)} {E2 : CS → Option (Int32 × CS)} (hE : EC H k E1) {x y : Int} {c : List Nat} {X : List (Nat × List Nat)} {P : List Nat} {lim : List Int} {s : CS} (hx : x ≤ 4000) (hy : y + 3 * k ≤ 90 ∧ 0 ≤ k) (h : JJ H x y c X P lim s) (hk : s.i 32 = 0 → 23 - sgI s ≤ k) (x5 x6 : Int32) (h6 : x6 = 0 ∨ s.i 43 = 61 ∨ s.i 43 = 135) : ok (f_X7_change_72 N E1 E2 s x5 x6) (fun R => JJ H (x - 20) y c X P lim R.2 ∧ (R.2.i 32 = 0 → EXR s R.2)) := by
  unfold f_X7_change_72 f_X4_cellOf
  refine ok_ite (fun _ => ok_bind (q_misp h.1) (fun p hp => ok_some ⟨JJ.flt h.1 hp, fun z => absurd z hp.2.2.2.1⟩)) (fun c6 => ?_)
  refine ok_bind (q_skip hN h.1 135) (fun p hp => ?_)
  rcases hp with ⟨p1, p2, p3⟩ | ⟨p1, p2, p3⟩
  · rw [if_pos p1, p2]
    have e61 : s.i 43 = 61 := by
      rcases h6 with z | z | z
      · exact absurd z c6
      · exact z
      · exact absurd z p3
    refine ok_bind (q_advC hN h.1) (fun q hq => ?_)
    obtain ⟨j1, e1⟩ := h.tk hq (fun _ => by rw [e61]; decide)
    refine ok_bind (q_expression (E2 := E2) hN hE (x - 100) y c X P lim q.2 (by omega) (by omega) j1 (fun z => by rw [(e1 z).sg]; exact hk (e1 z).1)) (fun r hr => ?_)
    obtain ⟨j2, e2⟩ := hr
    refine ok_bind (Q := fun w => w.2 = r.2) (ok_some rfl) (fun w hw => ?_)
    rw [hw]
    refine ok_bind (q_add N r.2 2 w.1) (fun u hu => ok_some ?_)
    have j3 := j2.add hu (by omega) (by omega) (fun _ _ _ _ _ _ => IOK.fall (by decide))
    refine ⟨j3.w (by omega) (Int.le_refl _), fun z => ?_⟩
    have z' := hu.f32.1.symm.trans z
    have ex := (e1 (e2 z').1).tr (e2 z')
    have pl := hu.pl
    exact ⟨ex.1, ⟨by rw [pl.1]; exact ex.2.1.1, by rw [pl.2]; exact ex.2.1.2⟩, ex.2.2.tr hu.smr⟩
  · rw [p1, if_neg (by decide)]
    obtain ⟨j1, e1⟩ := h.tk p3 (fun _ => by rw [p2]; decide)
    refine ok_bind (Q := fun w => w.2 = p.2) (ok_some rfl) (fun w hw => ?_)
    rw [hw]
    refine ok_bind (q_add N p.2 3 w.1) (fun u hu => ok_some ?_)
    have j3 := j1.add hu (by omega) (by omega) (fun _ _ _ _ _ _ => IOK.fall (by decide))
    refine ⟨j3.w (by omega) (Int.le_refl _), fun z => ?_⟩
    have ex := e1 (hu.f32.1.symm.trans z)
    have pl := hu.pl
    exact ⟨ex.1, ⟨by rw [pl.1]; exact ex.2.1.1, by rw [pl.2]; exact ex.2.1.2⟩, ex.2.2.tr hu.smr⟩
theorem q_change {N : Nat} {H : HB} (hN : 1000 ≤ N) {k : Int} {E1 : CS → Option (Unit × CS)} {E2 : CS → Option (Int32 × CS)} (hE : EC H k E1) {x y : Int} {c : List Nat} {X : List (Nat × List Nat)} {P : List Nat} {lim : List Int} {s : CS} (hx : x ≤ 4000) (hy : y + 3 * k ≤ 90 ∧ 0 ≤ k) (h : JJ H x y c X P lim s) (hk : s.i 32 = 0 → 23 - sgI s ≤ k) (x1 : Int64) (x3 x4 : Int32) : ok (f_X7_change N E1 E2 s x1 x3 x4) (fun R => JJ H (x - 20) y c X P lim R.2 ∧ (R.2.i 32 = 0 → EXR s R.2)) := by
  have c41 : ∀ x5 x6 : Int32, (x6 = 0 ∨ s.i 43 = 61 ∨ s.i 43 = 135) → ok (f_X7_change_41 N E1 E2 s x3 x5 x6) (fun R => JJ H (x - 20) y c X P lim R.2 ∧ (R.2.i 32 = 0 → EXR s R.2)) := fun x5 x6 h6 => by
    unfold f_X7_change_41 f_X7_change_63 f_X4_isCaught
    have fl : ok ((f_X1_fail N s 3 x3).bind fun p11 => some ((), p11.2)) (fun R => JJ H (x - 20) y c X P lim R.2 ∧ (R.2.i 32 = 0 → EXR s R.2)) := ok_bind (q_failC h.1 3 _ (by decide)) (fun p hp => ok_some ⟨JJ.flt h.1 hp, fun z => absurd z hp.2.2.2.1⟩)
    refine ok_ite (fun _ => fl) (fun _ => ok_ite (fun _ => q_ch72 hN hE hx hy h hk x5 x6 h6) (fun _ => ?_))
    refine ok_bind (Q := fun w => w.2 = s) (ok_ite (fun _ => ok_some rfl) (fun _ => ok_some rfl)) (fun w hw => ?_)
    rw [hw]
    exact ok_ite (fun _ => q_ch72 hN hE hx hy h hk x5 x6 h6) (fun _ => fl)
  unfold f_X7_change f_X7_change_38 f_X7_change_34
  refine ok_bind (q_find hN h.1.2.2.2.2.2.1 x1) (fun p hp => ?_)
  rw [hp.1]
  refine ok_bind (q_found s 61) (fun q hq => ?_)
  obtain ⟨q1, q2⟩ := hq
  rw [q1]
  rcases q2 with ⟨q2, q3⟩ | ⟨q2, q3⟩
  · rw [if_pos q2]
    refine ok_ite (fun _ => c41 _ 0 (Or.inl rfl)) (fun _ => ?_)
    refine ok_bind (q_found s 135) (fun r hr => ?_)
    obtain ⟨r1, r2⟩ := hr
    rw [r1]
    rcases r2 with ⟨r2, r3⟩ | ⟨r2, r3⟩
    · rw [if_pos r2]; exact c41 _ 0 (Or.inl rfl)
    · rw [r2, if_neg (by decide)]; exact c41 _ 1 (Or.inr (Or.inr r3))
  · rw [q2, if_neg (by decide)]; exact c41 _ 1 (Or.inr (Or.inl q3))
theorem q_named {N : Nat} {H : HB} (hN : 10000000000 ≤ N) {k : Int} {E1 : CS → Option (Unit × CS)} {E2 : CS → Option (Int32 × CS)} (hE : EC H k E1) {x y : Int} {c : List Nat} {X : List (Nat × List Nat)} {P : List Nat} {lim : List Int} {s : CS} (hx : x ≤ 4000) (hy : y + 3 * k ≤ 87 ∧ 0 ≤ k) (h : JJ H x y c X P lim s) (h0 : S0G s) (hk : 24 - sgI s ≤ k) (ht : s.i 43 = 2) : ok (f_X7_named N E1 E2 s) (fun R => STQ H (x - 20) y X P lim s R.2) := by
  have hN1 : 1000 ≤ N := by omega
  have nf := h0.1
  unfold f_X7_named
  refine ok_bind (q_advC hN1 h.1) (fun p hp => ?_)
  have gn := hp.gain h.1.2.2.1
  have g1 := gn.2.1 (by rw [ht]; decide)
  have g4 := gn.2.2.2.1 ht
  have es : eI s = plI s := eI.al (by unfold ALN; rw [ht]; decide)
  have j1 : JJ H (x - 100) (y - 2) c X P lim p.2 := h.adv hp (fun _ => by omega)
  have nf1 : p.2.i 32 = 0 := hp.f32.trans nf
  have x1 : SX 1 2 0 s p.2 := hp.smr.sx nf (by omega)
  refine ok_bind (q_found p.2 58) (fun q hq => ?_)
  obtain ⟨q1, q2⟩ := hq
  rw [q1]
  rcases q2 with ⟨q2, q3⟩ | ⟨q2, q3⟩
  · rw [if_pos q2]
    refine ok_bind (q_add N p.2 51 0) (fun a ha => ?_)
    have j2 := j1.add ha (by omega) (by omega) (fun _ _ _ _ _ _ => IOK.fall (by decide))
    have x2 : SX 1 2 0 s a.2 := (x1.tr (ha.sx nf1)).w (by omega) (by omega) (by omega)
    refine ok_bind (q_change (E2 := E2) hN1 hE (by omega) (by omega) j2 (fun _ => by have := x2.2.2.1; omega) s.l (s.i 44) 1) (fun b hb => ?_)
    obtain ⟨j3, e3⟩ := hb
    refine ok_bind (q_expJ hN1 j3 59 (by decide)) (fun d hd => ok_some ?_)
    obtain ⟨j4, e4⟩ := hd
    exact STQ.pl (p := 1) (g := 0) (j4.w (by omega) (by omega)) h0 (fun z => ((x2.tr (e3 (e4 z).1).sx).tr (e4 z).sx).w (by omega) (by omega) (by omega)) (by omega) (by omega)
  · rw [q2, if_neg (by decide)]
    have nb := (h.2 nf).2
    have nr := h0.2.1
    have e56 : p.2.i 56 = s.i 56 := x1.2.2.2.1.2.2.1
    have ecn : cnI p.2 = cnI s := by unfold cnI; rw [x1.2.2.2.1.2.1]
    have rs := x1.2.2.2.2.2.1
    have go : ∀ u : CS, JJ H (x - 100) (y - 2) c X P lim u → (u.i 32 = 0 → u = p.2 ∧ ∀ i a : Nat, (p.2.i 56).toInt < (i : Int) → (i : Int) < cnI p.2 → p.2.r 51 i = some a → p.2.o a 0 = 303 → ¬ p.2.ol a = s.l) → ok (f_X7_named_73 N E1 E2 u s.l) (fun R => STQ H (x - 20) y X P lim s R.2) := fun u ju hu => by
      by_cases sh : 97 ≤ s.l.toInt ∧ s.l.toInt ≤ 122
      · refine ok_imp (q_named73 (κ := 2) hN1 (by omega) (by omega) ju h0 (by omega) (fun z => by rw [(hu z).1]; exact ⟨x1, q3⟩) (fun z V T m a a1 a2 a3 a4 a5 v1 v2 v3 => ?_)) (fun R hR => hR.w (by omega) (by omega))
        have fresh := (hu z).2
        have kn := KLS.new (s := s) (x1 := s.l) nb.2.2.2.2.2.2.2.2 nr sh (fun i b b1 b2 b3 b4 => by
          have w := rs i (by omega)
          have w2 := w.2 b b3
          rw [← w2.2]
          exact fresh i b (by rw [e56]; exact b1) (by rw [ecn]; exact b2) (w.1.trans b3) (by rw [w2.1]; exact b4))
        have em : (cnI s).toNat = m := by omega
        rw [em] at kn
        have lb := v1.label v2 v3 a1 ⟨a2, by rw [a3]; exact sh⟩ (by rw [a3, a5]; exact kn)
        exact ⟨lb.1, by rw [lb.2]; omega⟩
      · have x3 : SX 1 3 0 s p.2 := hp.smr.sx nf (by have := g4.2 sh; omega)
        refine ok_imp (q_named73 (κ := 3) hN1 (by omega) (by omega) ju h0 (by omega) (fun z => by rw [(hu z).1]; exact ⟨x3, q3⟩) (fun z V T m a a1 a2 a3 a4 a5 v1 v2 v3 => ?_)) (fun R hR => hR.w (by omega) (by omega))
        have pl := v1.plain v2 v3 a1 (by rw [a2, a3]; exact ⟨by decide, by decide, by decide, fun q => sh q.2⟩)
        exact ⟨pl.1, by rw [pl.2]; omega⟩
    refine ok_bind (q_labelled hN j1.1 s.l) (fun r hr => ?_)
    rw [hr.1]
    rcases hr.2 with ⟨r1, r2⟩ | ⟨a, r1, r2, r3, r4, r5⟩
    · rw [if_pos r1]
      exact go p.2 j1 (fun _ => ⟨rfl, r2⟩)
    · rw [if_neg (fun z => by have := lt_int z; rw [z_t0] at this; omega)]
      refine ok_bind (q_failC j1.1 4 _ (by decide)) (fun u hu => ?_)
      exact go u.2 (JJ.flt j1.1 hu) (fun z => absurd z hu.2.2.2.1)
end
section
/-! the class's reading: int, log, return, throw, assert -/
theorem IOK.stop {tc : Int} {DT : Nat → List Nat} {KT : Nat → Prop} {o x : Int32} {c c1 : List Nat} (h : o.toInt = 50 ∨ o.toInt = 62 ∨ o.toInt = 63) : IOK tc DT KT o x c c1 := ⟨fun q => by omega, fun q => by omega, fun q r => by omega, fun q => by omega, fun q => by omega, fun q => by omega, fun q => by omega, fun q => by omega, fun q => by omega, fun q => by omega, fun q => by omega, fun q => by omega, by omega⟩
theorem q_newName {N : Nat} {H : HB} (hN : 1000 ≤ N) {x y : Int} {c : List Nat} {X : List (Nat × List Nat)} {P : List Nat} {lim : List Int} {s : CS} (h : JJ H x y c X P lim s) : ok (f_X7_newName N s) (fun R => JJ H (x - 100) y c X P lim R.2 ∧ (R.2.i 32 = 0 → EXR s R.2)) := by
  unfold f_X7_newName f_X7_newName_56
  refine ok_bind (q_found s 2) (fun p hp => ?_)
  obtain ⟨p1, p2⟩ := hp
  rw [p1]
  rcases p2 with ⟨p2, p3⟩ | ⟨p2, p3⟩
  · rw [if_pos p2]
    exact ok_bind (q_misp h.1) (fun q hq => ok_some ⟨JJ.flt h.1 hq, fun z => absurd z hq.2.2.2.1⟩)
  · rw [p2, if_neg (by decide)]
    refine ok_bind (q_find hN h.1.2.2.2.2.2.1 s.l) (fun q hq => ?_)
    rw [hq.1]
    refine ok_ite (fun _ => ok_bind (q_advC hN h.1) (fun r hr => ok_some ?_)) (fun _ => ok_bind (q_failC h.1 4 _ (by decide)) (fun r hr => ok_some ⟨JJ.flt h.1 hr, fun z => absurd z hr.2.2.2.1⟩))
    exact h.tk hr (fun _ => by rw [p3]; decide)
theorem q_tell {N : Nat} {H : HB} {x y : Int} {c : List Nat} {X : List (Nat × List Nat)} {P : List Nat} {lim : List Int} {s : CS} (h : JJ H x y c X P lim s) (x1 : Int64) : ok (f_X7_tell N s x1) (fun R => JJ H x y c X P lim R.2 ∧ (R.2.i 32 = 0 → SX 0 0 0 s R.2)) := by
  unfold f_X7_tell f_X0_newCells
  refine ok_bind (Q := fun w => IRR s w.2) (ok_some ((IRR.rf h.1).i 23 _ (by unfold IRJ; omega) (by omega))) (fun w hw => ?_)
  have j1 := h.irr hw
  refine ok_bind (q_nad j1.1.2.2.2.2.2.1 x1 w.1 (-1)) (fun n hn => ok_some ?_)
  have j2 := j1.k.nad hn (fun _ => Or.inl (by decide))
  have ir := (IRR.rf j2.1).i 25 (n.2.i 25 + 1) (by unfold IRJ; omega) (by omega)
  refine ⟨JK.j (j2.irr ir), fun z => ?_⟩
  have z1 := ir.f.1.symm.trans z
  have z2 := hn.f.1.symm.trans z1
  have z3 := hw.f.1.symm.trans z2
  exact (((hw.sx z3).tr (hn.sx z2)).tr (ir.sx z1)).w (by omega) (by omega) (by omega)
theorem q_define {N : Nat} {H : HB} (hN : 1000 ≤ N) {k : Int} {E1 : CS → Option (Unit × CS)} {E2 : CS → Option (Int32 × CS)} (hE : EC H k E1) {x y : Int} {c : List Nat} {X : List (Nat × List Nat)} {P : List Nat} {lim : List Int} {s : CS} (hx : x ≤ 4000) (hy : y + 3 * k ≤ 90 ∧ 0 ≤ k) (h : JJ H x y c X P lim s) (hk : s.i 32 = 0 → 23 - sgI s ≤ k) (x1 : Int64) : ok (f_X7_define N E1 E2 s x1) (fun R => JJ H (x - 100) y c X P lim R.2 ∧ (R.2.i 32 = 0 → SX 2 0 0 s R.2)) := by
  unfold f_X7_define
  refine ok_bind (q_expJ hN h 61 (by decide)) (fun p hp => ?_)
  obtain ⟨j1, e1⟩ := hp
  refine ok_bind (q_expression (E2 := E2) hN hE (x - 100) y c X P lim p.2 (by omega) (by omega) j1 (fun z => by rw [(e1 z).sg]; exact hk (e1 z).1)) (fun q hq => ?_)
  obtain ⟨j2, e2⟩ := hq
  refine ok_bind (q_tell (N := N) j2 x1) (fun r hr => ?_)
  obtain ⟨j3, e3⟩ := hr
  refine ok_bind (q_add N r.2 2 r.1) (fun u hu => ok_some ?_)
  have j4 := j3.add hu (by omega) (by omega) (fun _ _ _ _ _ _ => IOK.fall (by decide))
  refine ⟨j4.w (by omega) (Int.le_refl _), fun z => ?_⟩
  have z1 := hu.f32.1.symm.trans z
  have z2 := (e3 z1).1
  exact (((((e1 (e2 z2).1).sx.tr (e2 z2).sx)).tr (e3 z1)).tr (hu.sx z1)).w (by omega) (by omega) (by omega)
/-- a word is taken -/
theorem JJ.word {H : HB} {x y : Int} {c : List Nat} {X : List (Nat × List Nat)} {P : List Nat} {lim : List Int} {s R : CS} (h : JJ H x y c X P lim s) (ha : ADV s R) (hw : s.i 32 = 0 → 200 ≤ (s.i 43).toInt) : JJ H (x - 200) (y - 3) c X P lim R ∧ (R.i 32 = 0 → SX 2 3 0 s R) := by
  refine ⟨h.adv ha (fun q => ?_), fun q => ?_⟩
  · have wd := ha.wd h.1.2.2.1 (Or.inl (hw q))
    omega
  · have q' := ha.f32.symm.trans q
    exact ha.smr.sx q' (ha.wd h.1.2.2.1 (Or.inl (hw q')))
theorem q_int {N : Nat} {H : HB} (hN : 1000 ≤ N) {k : Int} {E1 : CS → Option (Unit × CS)} {E2 : CS → Option (Int32 × CS)} (hE : EC H k E1) {x y : Int} {c : List Nat} {X : List (Nat × List Nat)} {P : List Nat} {lim : List Int} {s : CS} (hx : x ≤ 4000) (hy : y + 3 * k ≤ 87 ∧ 0 ≤ k) (h : JJ H x y c X P lim s) (h0 : S0G s) (hk : 24 - sgI s ≤ k) (ht : 200 ≤ (s.i 43).toInt) : ok ((f_X9_advance N s).bind fun p7 => (f_X7_newName N p7.2).bind fun p11 => (f_X7_define N E1 E2 p11.2 p11.1).bind fun p15 => (f_X1_expect N p15.2 59).bind fun p19 => some ((), p19.2)) (fun R => STQ H (x - 20) y X P lim s R.2) := by
  refine ok_bind (q_advC hN h.1) (fun p hp => ?_)
  obtain ⟨j1, e1⟩ := h.word hp (fun _ => ht)
  refine ok_bind (q_newName hN j1) (fun q hq => ?_)
  obtain ⟨j2, e2⟩ := hq
  refine ok_bind (q_define (E2 := E2) hN hE (by omega) (by omega) j2 (fun z => by have := (e2 z).sg; have := (e1 (e2 z).1).2.2.1; omega) q.1) (fun r hr => ?_)
  obtain ⟨j3, e3⟩ := hr
  refine ok_bind (q_expJ hN j3 59 (by decide)) (fun u hu => ok_some ?_)
  obtain ⟨j4, e4⟩ := hu
  refine STQ.pl (p := 1) (g := 0) (j4.w (by omega) (by omega)) h0 (fun z => ?_) (by omega) (by omega)
  have z1 := (e4 z).1
  have z2 := (e3 z1).1
  exact ((((e1 (e2 z2).1).tr (e2 z2).sx).tr (e3 z1)).tr (e4 z).sx).w (by omega) (by omega) (by omega)
theorem q_log {N : Nat} {H : HB} (hN : 1000 ≤ N) {k : Int} {E1 : CS → Option (Unit × CS)} {E2 : CS → Option (Int32 × CS)} (hE : EC H k E1) {x y : Int} {c : List Nat} {X : List (Nat × List Nat)} {P : List Nat} {lim : List Int} {s : CS} (hx : x ≤ 4000) (hy : y + 3 * k ≤ 87 ∧ 0 ≤ k) (h : JJ H x y c X P lim s) (h0 : S0G s) (hk : 24 - sgI s ≤ k) (ht : 200 ≤ (s.i 43).toInt) : ok ((f_X9_advance N s).bind fun p41 => (f_X1_expression N E1 E2 p41.2).bind fun p45 => (f_X0_add N p45.2 52 0).bind fun p49 => (f_X1_expect N p49.2 59).bind fun p53 => some ((), p53.2)) (fun R => STQ H (x - 20) y X P lim s R.2) := by
  refine ok_bind (q_advC hN h.1) (fun p hp => ?_)
  obtain ⟨j1, e1⟩ := h.word hp (fun _ => ht)
  refine ok_bind (q_expression (E2 := E2) hN hE _ _ c X P lim p.2 (by omega) (by omega) j1 (fun z => by have := (e1 z).2.2.1; omega)) (fun q hq => ?_)
  obtain ⟨j2, e2⟩ := hq
  refine ok_bind (q_add N q.2 52 0) (fun r hr => ?_)
  have j3 := j2.add hr (by omega) (by omega) (fun _ _ _ _ _ _ => IOK.fall (by decide))
  refine ok_bind (q_expJ hN j3 59 (by decide)) (fun u hu => ok_some ?_)
  obtain ⟨j4, e4⟩ := hu
  refine STQ.pl (p := 1) (g := 0) (j4.w (by omega) (by omega)) h0 (fun z => ?_) (by omega) (by omega)
  have z1 := (e4 z).1
  have z2 := hr.f32.1.symm.trans z1
  exact ((((e1 (e2 z2).1).tr (e2 z2).sx).tr (hr.sx z2)).tr (e4 z).sx).w (by omega) (by omega) (by omega)
/-- the end of a statement that is not gone past -/
theorem q_endS {N : Nat} {H : HB} (hN : 1000 ≤ N) {x y p g : Int} {c : List Nat} {X : List (Nat × List Nat)} {P : List Nat} {lim : List Int} {s0 s : CS} (h : JJ H x y c X P lim s) (h0 : S0G s0) (hs : s.i 32 = 0 → SX p g 0 s0 s) (hp : 0 ≤ p) (hg : 0 ≤ g) : ok ((f_X1_expect N s 59).bind fun p14 => some ((), CS.setI p14.2 36 0)) (fun R => STQ H (x - 100) y X P lim s0 R.2) := by
  refine ok_bind (q_expJ hN h 59 (by decide)) (fun u hu => ok_some ?_)
  obtain ⟨j4, e4⟩ := hu
  have ir := (IRR.rf j4.1).i 36 0 (by unfold IRJ; omega) (fun _ => Or.inl rfl)
  refine STQ.pl (p := 1) (g := 0) (j4.irr ir) h0 (fun z => ?_) (by omega) (by omega)
  have z1 := ir.f.1.symm.trans z
  exact (((hs (e4 z1).1).tr (e4 z1).sx).tr (ir.sx z1)).w (by omega) (by omega) (by omega)
theorem q_giveBack {N : Nat} {H : HB} (hN : 1000 ≤ N) {k : Int} {E1 : CS → Option (Unit × CS)} {E2 : CS → Option (Int32 × CS)} (hE : EC H k E1) {x y : Int} {c : List Nat} {X : List (Nat × List Nat)} {P : List Nat} {lim : List Int} {s : CS} (hx : x ≤ 4000) (hy : y + 3 * k ≤ 87 ∧ 0 ≤ k) (h : JJ H x y c X P lim s) (h0 : S0G s) (hk : 24 - sgI s ≤ k) (ht : 200 ≤ (s.i 43).toInt) : ok (f_X7_giveBack N E1 E2 s) (fun R => STQ H (x - 20) y X P lim s R.2) := by
  have go : ∀ u : CS, JJ H x y c X P lim u → (u.i 32 = 0 → u = s) → ok (f_X7_giveBack_22 N E1 E2 u) (fun R => STQ H (x - 20) y X P lim s R.2) := fun u ju hu => by
    unfold f_X7_giveBack_22
    refine ok_bind (q_advC hN ju.1) (fun p hp => ?_)
    obtain ⟨j1, e1⟩ := ju.word hp (fun z => by rw [hu z]; exact ht)
    have e1' : p.2.i 32 = 0 → SX 2 3 0 s p.2 := fun z => by
      have w := e1 z
      rw [hu w.1] at w
      exact w
    refine ok_bind (q_expression (E2 := E2) hN hE _ _ c X P lim p.2 (by omega) (by omega) j1 (fun z => by have := (e1' z).2.2.1; omega)) (fun q hq => ?_)
    obtain ⟨j2, e2⟩ := hq
    refine ok_bind (q_add N q.2 62 0) (fun r hr => ?_)
    have j3 := j2.add hr (by omega) (by omega) (fun _ _ _ _ _ _ => IOK.stop (by decide))
    refine ok_imp (q_endS (p := 0) (g := 0) hN j3 h0 (fun z => ?_) (by omega) (by omega)) (fun R hR => hR.w (by omega) (by omega))
    have z2 := hr.f32.1.symm.trans z
    exact (((e1' (e2 z2).1).tr (e2 z2).sx).tr (hr.sx z2)).w (by omega) (by omega) (by omega)
  unfold f_X7_giveBack
  exact ok_ite (fun _ => go s h (fun _ => rfl)) (fun _ => ok_bind (q_failC h.1 5 _ (by decide)) (fun p hp => go p.2 (JJ.flt h.1 hp) (fun z => absurd z hp.2.2.2.1)))
theorem q_throwOne {N : Nat} {H : HB} (hN : 1000 ≤ N) {k : Int} {E1 : CS → Option (Unit × CS)} {E2 : CS → Option (Int32 × CS)} (hE : EC H k E1) {x y : Int} {c : List Nat} {X : List (Nat × List Nat)} {P : List Nat} {lim : List Int} {s : CS} (hx : x ≤ 4000) (hy : y + 3 * k ≤ 87 ∧ 0 ≤ k) (h : JJ H x y c X P lim s) (h0 : S0G s) (hk : 24 - sgI s ≤ k) (ht : 200 ≤ (s.i 43).toInt) : ok (f_X7_throwOne N E1 E2 s) (fun R => STQ H (x - 20) y X P lim s R.2) := by
  unfold f_X7_throwOne f_X7_throwOne_108 f_X4_isCaught f_X4_frameOf
  refine ok_bind (q_advC hN h.1) (fun p hp => ?_)
  obtain ⟨j1, e1⟩ := h.word hp (fun _ => ht)
  have e152 : ∀ (u : CS) (x' : Int), x' ≤ x → JJ H x' (y - 3) c X P lim u → (u.i 32 = 0 → SX 2 0 0 s u) → ok (f_X7_throwOne_152 N E1 E2 u) (fun R => STQ H (x - 20) y X P lim s R.2) := fun u x' hx' ju hu => by
    unfold f_X7_throwOne_152
    exact ok_imp (q_endS (p := 2) (g := 0) hN ju h0 hu (by omega) (by omega)) (fun R hR => hR.w (by omega) (by omega))
  have fl : ok ((f_X1_fail N p.2 3 (p.2.i 44)).bind fun p28 => some ((), p28.2)) (fun R => STQ H (x - 20) y X P lim s R.2) := ok_bind (q_failC j1.1 3 _ (by decide)) (fun q hq => ok_some (STQ.flt j1.1 hq))
  refine ok_bind (q_found p.2 5) (fun q hq => ?_)
  obtain ⟨q1, q2⟩ := hq
  rw [q1]
  rcases q2 with ⟨q2, q3⟩ | ⟨q2, q3⟩
  · rw [if_pos q2]
    refine ok_bind (q_found p.2 2) (fun r hr => ?_)
    obtain ⟨r1, r2⟩ := hr
    rw [r1]
    rcases r2 with ⟨r2, r3⟩ | ⟨r2, r3⟩
    · rw [if_pos r2]
      exact ok_bind (q_misp j1.1) (fun u hu => e152 u.2 x (Int.le_refl _) (JJ.flt j1.1 hu) (fun z => absurd z hu.2.2.2.1))
    · rw [r2, if_neg (by decide)]
      refine ok_bind (q_find hN j1.1.2.2.2.2.2.1 p.2.l) (fun f hf => ?_)
      rw [hf.1]
      refine ok_ite (fun _ => fl) (fun cf => ?_)
      have f0 := hf.2 (Int32.not_lt.mp cf)
      refine ok_bind (Q := fun w => w.2 = p.2 ∧ (¬ w.1 = 0 → ¬ gAt (p.2.a 49) 128 f.1 < 0)) (ok_ite (fun _ => ok_some ⟨rfl, fun z => absurd rfl z⟩) (fun g => ok_some ⟨rfl, fun _ => g⟩)) (fun w hw => ?_)
      rw [hw.1]
      refine ok_ite (fun _ => fl) (fun cw => ?_)
      refine ok_bind (Q := fun w => w.2 = p.2 ∧ w.1 = gAt (p.2.a 49) 128 f.1) (ok_some ⟨rfl, rfl⟩) (fun t ht' => ?_)
      rw [ht'.1]
      refine ok_bind (q_add N p.2 64 t.1) (fun a ha => ?_)
      have nm := j1.1.2.2.2.2.2.1
      have j2 := j1.add ha (by omega) (by omega) (fun _ DT KT _ _ qN => by
        have ib' : ib f.1 128 := ⟨f0.1, by omega⟩
        have cl := clampI f0.1
        have eg : t.1 = p.2.a 49 f.1.toNatClampNeg := by
          rw [ht'.2]
          unfold gAt
          exact if_pos ib'
        have ne := hw.2 cw
        rw [← ht'.2] at ne
        have ge := le_int (Int32.not_lt.mp ne)
        rw [z_t0] at ge
        have z := qN f.1.toNatClampNeg (by omega)
        rw [← eg] at z
        have at2 : AT2 c t.1 := by
          rcases z with z | z
          · omega
          · exact z
        exact ⟨fun q => absurd q (by decide), fun q => absurd q (by decide), fun _ q => absurd q (by decide), fun _ q => absurd q (by decide), fun q => absurd q (by decide), fun q => absurd q (by decide), fun q => absurd q (by decide), fun q => absurd q (by decide), fun q => absurd q (by decide), fun q => absurd q (by decide), fun q => absurd q (by decide), fun _ => at2, by decide⟩)
      refine ok_bind (q_advC hN j2.1) (fun b hb => ?_)
      have f32 := ha.f32
      obtain ⟨j3, e3⟩ := j2.tk hb (fun _ => by rw [f32.2.1, r3]; decide)
      refine e152 b.2 _ (by omega) j3 (fun z => ?_)
      have z1 := (e3 z).1
      have z2 := f32.1.symm.trans z1
      exact (((e1 z2).tr (ha.sx z2)).tr (e3 z).sx).w (by omega) (by omega) (by omega)
  · rw [q2, if_neg (by decide)]
    have e46 : ∀ (u : CS) (x1 : Int32), JJ H (x - 200) (y - 3) c X P lim u → (u.i 32 = 0 → u = p.2) → ok (f_X7_throwOne_46 N E1 E2 u x1) (fun R => STQ H (x - 20) y X P lim s R.2) := fun u x1 ju hu => by
      unfold f_X7_throwOne_46
      refine ok_bind (q_advC hN ju.1) (fun b hb => ?_)
      obtain ⟨j2, e2⟩ := ju.tk hb (fun z => by rw [hu z, q3]; decide)
      have e2' : b.2.i 32 = 0 → SX 2 0 0 s b.2 := fun z => by
        have w := e2 z
        rw [hu w.1] at w
        exact ((e1 w.1).tr w.sx).w (by omega) (by omega) (by omega)
      refine ok_bind (q_expression (E2 := E2) hN hE _ _ c X P lim b.2 (by omega) (by omega) j2 (fun z => by have := (e2' z).2.2.1; omega)) (fun d hd => ?_)
      obtain ⟨j3, e3⟩ := hd
      refine ok_bind (q_add N d.2 63 x1) (fun r hr => ?_)
      have j4 := j3.add hr (by omega) (by omega) (fun _ _ _ _ _ _ => IOK.stop (by decide))
      refine e152 r.2 _ (by omega) j4 (fun z => ?_)
      have z2 := hr.f32.1.symm.trans z
      exact (((e2' (e3 z2).1).tr (e3 z2).sx).tr (hr.sx z2)).w (by omega) (by omega) (by omega)
    refine ok_bind (Q := fun w => w.2 = p.2) (by
      unfold f_X10_isKind f_X10_isKind_16
      exact ok_ite (fun _ => ok_some rfl) (fun _ => ok_ite (fun _ => ok_some rfl) (fun _ => ok_some rfl))) (fun w hw => ?_)
    rw [hw]
    refine ok_ite (fun _ => ok_bind (q_failC j1.1 3 _ (by decide)) (fun u hu => e46 u.2 _ (JJ.flt j1.1 hu) (fun z => absurd z hu.2.2.2.1))) (fun _ => e46 p.2 _ j1 (fun _ => rfl))
end
section
/-! the class's reading: assert; jumps out of rows -/
theorem q_claim {N : Nat} {H : HB} (hN : 1000 ≤ N) {k : Int} {E1 : CS → Option (Unit × CS)} {E2 : CS → Option (Int32 × CS)} (hE : EC H k E1) (hE2 : EC2 H k E2) {x y : Int} {c : List Nat} {X : List (Nat × List Nat)} {P : List Nat} {lim : List Int} {s : CS} (hx : x ≤ 4000) (hy : y + 3 * k ≤ 87 ∧ 0 ≤ k) (h : JJ H x y c X P lim s) (h0 : S0G s) (hk : 24 - sgI s ≤ k) (ht : 200 ≤ (s.i 43).toInt) : ok (f_X7_claim N E1 E2 s) (fun R => STQ H (x - 20) y X P lim s R.2) := by
  have nf := h0.1
  unfold f_X7_claim
  refine ok_bind (q_newTarget N s) (fun p hp => ?_)
  obtain ⟨t1, t2⟩ := hp
  have j1 : JJ H x (y + 1) c _ _ lim p.2 := h.new t1 (by omega) (by omega) c
  have et := NTG.t h.k nf t2
  have f1 := t1.f
  obtain ⟨t, ht'⟩ : ∃ t, t = (tcI s).toNat := ⟨_, rfl⟩
  rw [← ht'] at j1 et
  have mt : (t, c) ∈ (t, c) :: X := List.mem_cons_self ..
  refine ok_bind (q_advC hN j1.1) (fun q hq => ?_)
  obtain ⟨j2, e2⟩ := j1.word hq (fun _ => by rw [f1.2.1]; exact ht)
  have e2' : q.2.i 32 = 0 → SX 2 3 0 s q.2 := fun z => ((t1.sx nf).tr (e2 z)).w (by omega) (by omega) (by omega)
  refine ok_bind (q_add N q.2 35 p.1) (fun r hr => ?_)
  have j3 := j2.add hr (by omega) (by omega) (fun _ DT KT z _ _ => IOK.jmp (by decide) et mt z)
  have e3 : r.2.i 32 = 0 → SX 2 3 0 s r.2 := fun z => ((e2' (hr.f32.1.symm.trans z)).tr (hr.sx (hr.f32.1.symm.trans z))).w (by omega) (by omega) (by omega)
  refine ok_bind (q_condition (E1 := E1) hN hE2 _ _ c _ _ lim r.2 (by omega) (by omega) j3 (fun z => by have := (e3 z).2.2.1; omega)) (fun u hu => ?_)
  obtain ⟨⟨j4, e4⟩, -⟩ := hu
  refine ok_bind (q_add N u.2 5 0) (fun a ha => ?_)
  have j5 := j4.add ha (by omega) (by omega) (fun _ _ _ _ _ _ => IOK.fall (by decide))
  refine ok_bind (q_add N a.2 31 p.1) (fun b hb => ?_)
  have j6 := j5.add hb (by omega) (by omega) (fun _ DT KT z _ _ => IOK.jmp (by decide) et mt z)
  have e6 : b.2.i 32 = 0 → SX 2 3 0 s b.2 := fun z => by
    have z1 := hb.f32.1.symm.trans z
    have z2 := ha.f32.1.symm.trans z1
    exact ((((e3 (e4 z2).1).tr (e4 z2).sx).tr (ha.sx z2)).tr (hb.sx z1)).w (by omega) (by omega) (by omega)
  have e74 : ∀ (v : CS), JJ H (x - 200) (y - 2) c ((t, c) :: X) (t :: P) lim v → (v.i 32 = 0 → SX 2 0 0 s v) → ok (f_X7_claim_74 N E1 E2 v p.1) (fun R => STQ H (x - 20) y X P lim s R.2) := fun v jv hv => by
    unfold f_X7_claim_74
    refine ok_bind (q_add N v 63 3) (fun d hd => ?_)
    have k1 := jv.add hd (by omega) (by omega) (fun _ _ _ _ _ _ => IOK.stop (by decide))
    refine ok_bind (q_aim N d.2 p.1) (fun e he => ?_)
    have k2 : JJ H (x - 200 + 1) (y - 2) c ((t, c) :: X) P lim e.2 := k1.aim he (by omega) (by omega) (fun _ => ⟨t, et, mt⟩) (fun k hk => by
      rcases List.mem_cons.mp hk with e | e
      · right; rw [e]; exact et.symm
      · exact Or.inl e)
    refine ok_bind (q_expJ hN k2 59 (by decide)) (fun f hf => ok_some ?_)
    obtain ⟨k3, e3⟩ := hf
    refine STQ.pl (p := 1) (g := 0) ((k3.sub (fun q hq => List.mem_cons_of_mem _ hq)).w (by omega) (by omega)) h0 (fun z => ?_) (by omega) (by omega)
    have z1 := (e3 z).1
    have z2 := he.f.1.symm.trans z1
    have z3 := hd.f32.1.symm.trans z2
    exact ((((hv z3).tr (hd.sx z3)).tr (he.sx z2)).tr (e3 z).sx).w (by omega) (by omega) (by omega)
  refine ok_bind (q_skip hN j6.1 58) (fun v hv => ?_)
  rcases hv with ⟨v1, v2, v3⟩ | ⟨v1, v2, v3⟩
  · rw [if_pos v1, v2]
    refine ok_bind (q_add N b.2 0 0) (fun d hd => ?_)
    have j7 := j6.add hd (by omega) (by omega) (fun _ _ _ _ _ _ => IOK.fall (by decide))
    refine e74 d.2 (j7.w (by omega) (by omega)) (fun z => ?_)
    have z1 := hd.f32.1.symm.trans z
    exact ((e6 z1).tr (hd.sx z1)).w (by omega) (by omega) (by omega)
  · rw [v1, if_neg (by decide)]
    obtain ⟨j7, e7⟩ := j6.tk v3 (fun _ => by rw [v2]; decide)
    have e7' : v.2.i 32 = 0 → SX 2 0 0 s v.2 := fun z => ((e6 (e7 z).1).tr (e7 z).sx).w (by omega) (by omega) (by omega)
    refine ok_bind (q_expression (E2 := E2) hN hE _ _ c _ _ lim v.2 (by omega) (by omega) j7 (fun z => by have := (e7' z).2.2.1; omega)) (fun d hd => ?_)
    obtain ⟨j8, e8⟩ := hd
    exact e74 d.2 (j8.w (by omega) (by omega)) (fun z => ((e7' (e8 z).1).tr (e8 z).sx).w (by omega) (by omega) (by omega))
theorem ROW1.ext {s : CS} {DT : Nat → List Nat} {KT : Nat → Prop} {a : Nat} {c0 c : List Nat} {lim lim' : List Int} (h : ROW1 s DT KT a c0 c lim lim') : ∃ r : List Nat, c = r ++ c0 := by
  obtain ⟨h1, h2, h3⟩ := h
  rcases h3 with ⟨z1, z2, e⟩ | ⟨z1, z2, -⟩ | ⟨z1, z2, -⟩ | ⟨z1, z2, -⟩ | ⟨z1, z2, -⟩ | ⟨z1, z2, -⟩ | ⟨z1, z2, -⟩ | ⟨z1, z2, -⟩ | ⟨z1, z2, -⟩ | ⟨z1, z2, -⟩ | ⟨z1, z2, -⟩ | ⟨z1, z2, -⟩
  · exact ⟨[], z2⟩
  · exact ⟨[], z2⟩
  · exact ⟨[], z2⟩
  · exact ⟨[], z2⟩
  · exact ⟨[], z2⟩
  · exact ⟨[], z2⟩
  · exact ⟨[], z2⟩
  · exact ⟨[0], z2⟩
  · exact ⟨[1], z2⟩
  · exact ⟨[2], z2⟩
  · exact ⟨[2], z2⟩
  · exact ⟨[3], z2⟩
/-- a row among the others -/
theorem RCH.at {s : CS} {DT : Nat → List Nat} {KT : Nat → Prop} : ∀ {n : Nat} {c : List Nat} {L : List Int}, RCH s DT KT n c L → ∀ i a : Nat, i < n → s.r 51 i = some a → ∃ (c0 c1 : List Nat) (L1 L0 : List Int) (r : List Nat), ROW1 s DT KT a c0 c1 L1 L0 ∧ c = r ++ c0
  | 0, _, _, _, i, a, hi, _ => by omega
  | n + 1, c, L, ⟨b, c0, L', h1, h2, h3, h4⟩, i, a, hi, ea => by
    obtain ⟨r0, e0⟩ := h3.ext
    by_cases e : i = n
    · rw [e, h1] at ea
      cases ea
      exact ⟨c0, c, L, L', r0, h3, e0⟩
    · obtain ⟨d0, d1, L1, L0, r, g1, g2⟩ := RCH.at h4 i a (by omega) ea
      exact ⟨d0, d1, L1, L0, r0 ++ r, g1, by rw [e0, g2, List.append_assoc]⟩
theorem lv32 {t g : Int32} (ht : 0 ≤ t.toInt ∧ t.toInt ≤ 2000) (hg : 0 ≤ g.toInt ∧ g.toInt < 32) : (t * 32 + g) / 32 = t ∧ ((t * 32 + g) - (t * 32 + g) / 32 * 32).toInt = g.toInt := by
  have e32 : (32 : Int32).toInt = 32 := by decide
  have m1 : (t * 32).toInt = t.toInt * 32 := by
    rw [Int32.toInt_mul, e32, Int.bmod_eq_of_le (by omega) (by omega)]
  have a1 : (t * 32 + g).toInt = t.toInt * 32 + g.toInt := by rw [toInt_add] <;> rw [m1] <;> omega
  have d1 : (t * 32 + g) / 32 = t := by
    refine Int32.toInt_inj.mp ?_
    rw [Int32.toInt_div, a1, e32, Int.tdiv_eq_ediv_of_nonneg (by omega), Int.bmod_eq_of_le (by omega) (by omega)]
    omega
  refine ⟨d1, ?_⟩
  rw [d1, toInt_sub] <;> rw [a1, m1] <;> omega
theorem drop_suf {r c0 : List Nat} : (r ++ c0).drop ((r ++ c0).length - c0.length) = c0 := by
  have e : (r ++ c0).length - c0.length = r.length := by rw [List.length_append]; omega
  rw [e, List.drop_left]
/-- out of frames, or a plain jump -/
theorem q_leave {N : Nat} {H : HB} {x y : Int} {cD c d c1 : List Nat} {X : List (Nat × List Nat)} {P : List Nat} {lim : List Int} {s : CS} (h : JK H x y cD c d X P lim s) (t g : Int32) (hx : x ≤ 5000) (hy : y ≤ 95) (hl : s.i 32 = 0 → (s.i 38).toInt = (cD.length : Int) ∧ cD.length ≤ 21) (hT : s.i 32 = 0 → ∀ (DT : Nat → List Nat) (KT : Nat → Prop), (∀ q ∈ X, (q.1 : Int) < tcI s ∧ DT q.1 = q.2 ∧ ¬ KT q.1) → (∀ n : Nat, (n : Int) = cnI s → RCH s DT KT n c lim) → ∃ c0 r : List Nat, TTc (tcI s) DT KT t c0 ∧ g.toInt = (c0.length : Int) ∧ cD = r ++ c0) : ok (f_X7_leave N s t g) (fun R => JK H (x + 1) y c1 c d X P lim R.2 ∧ (R.2.i 32 = 0 → SX 0 0 0 s R.2) ∧ (∃ o v : Int32, ADD s R.2 o v)) := by
  unfold f_X7_leave
  refine ok_ite (fun ce => ?_) (fun ce => ?_)
  · refine ok_bind (q_add N s 30 t) (fun p hp => ok_some ⟨h.add hp (by omega) (by omega) (fun q => (hl q).2) (fun q DT KT qX qR _ => ?_), fun z => hp.sx (hp.f32.1.symm.trans z), 30, t, hp⟩)
    obtain ⟨c0, r, w1, w2, w3⟩ := hT q DT KT qX qR
    have e : c0 = cD := by
      have l := (hl q).1
      rw [← ce, w2] at l
      have l2 : c0.length = cD.length := by omega
      rw [w3, List.length_append] at l2
      have r0 : r = [] := List.length_eq_zero_iff.mp (by omega)
      rw [w3, r0]; rfl
    rw [e] at w1
    exact ⟨fun q => absurd q (by decide), fun _ => w1, fun q => absurd q (by decide), fun q => absurd q (by decide), fun q => absurd q (by decide), fun q => absurd q (by decide), fun q => absurd q (by decide), fun q => absurd q (by decide), fun q => absurd q (by decide), fun q => absurd q (by decide), fun q => absurd q (by decide), fun q => absurd q (by decide), by decide⟩
  · refine ok_bind (q_add N s 60 (t * 32 + g)) (fun p hp => ok_some ⟨h.add hp (by omega) (by omega) (fun q => (hl q).2) (fun q DT KT qX qR _ => ?_), fun z => hp.sx (hp.f32.1.symm.trans z), _, _, hp⟩)
    obtain ⟨c0, r, w1, w2, w3⟩ := hT q DT KT qX qR
    have sz := (h.2 q).2.sz h.1.2.2.1 h.1.2.2.2.2.2.2.1.1 (by omega) (by omega)
    have len := (hl q).2
    have l2 : c0.length ≤ cD.length := by rw [w3, List.length_append]; omega
    have lv := lv32 (t := t) (g := g) ⟨w1.1, by have := w1.2.1; omega⟩ (by omega)
    refine ⟨fun q => absurd q (by decide), fun q => absurd q (by decide), fun _ q => absurd q (by decide), fun _ q => absurd q (by decide), fun q => absurd q (by decide), fun q => absurd q (by decide), fun q => absurd q (by decide), fun q => absurd q (by decide), fun q => absurd q (by decide), fun q => absurd q (by decide), fun _ => ⟨c0.length, lv.2.trans w2, l2, ?_⟩, fun q => absurd q (by decide), by decide⟩
    rw [lv.1, w3, drop_suf]
    exact w1
end
section
/-! the class's reading: break, continue, yield -/
theorem isLp.d (v : Int32) : isLp v ∨ ¬ isLp v := Classical.em _
theorem q_near7 {N : Nat} {H : HB} {s : CS} (h : CBS H s) (x1 : Int32) : ∀ (n : Nat) (x2 : Int32), x2.toInt < cnI s → x2.toInt - (s.i 56).toInt < n → ok (f_X6_nearest_7 N (n + 1) s x1 x2) (fun R => R.2 = s ∧ (R.1 < 0 ∨ (∃ a : Nat, 0 ≤ R.1.toInt ∧ R.1.toInt < cnI s ∧ s.r 51 R.1.toInt.toNat = some a ∧ (isLp (s.o a 0) ∨ (x1 = 0 ∧ s.o a 0 = 218)))))
  | n, x2, hc, hn => by
    show ok (b_X6_nearest_7 N (f_X6_nearest_7 N n) s x1 x2) _
    unfold b_X6_nearest_7 f_X6_nearest_46
    refine ok_ite (fun c => ok_some ⟨rfl, Or.inl (by show (-1 : Int32) < 0; decide)⟩) (fun c => ?_)
    have l := lt_int (Int32.not_le.mp c)
    have cn := h.2.2.2.2.2.2.1
    have em : (-1 : Int32).toInt = -1 := by decide
    have bl := Int32.le_toInt (s.i 56)
    have es : (x2 + -1).toInt = x2.toInt - 1 := by rw [toInt_add] <;> rw [em] <;> omega
    obtain ⟨n', rfl⟩ : ∃ n', n = n' + 1 := ⟨n - 1, by omega⟩
    have go := q_near7 (N := N) h x1 n' (x2 + -1) (by omega) (by omega)
    refine ok_bind (q_row (N := N) h x2) (fun p hp => ?_)
    obtain ⟨p1, p2⟩ := hp
    rw [p1]
    rcases p2 with ⟨p2, p3⟩ | ⟨a, p2, p3, p4, p5⟩
    · rw [p2]; exact go
    · rw [p2]
      show ok (if oK s a 0 then (f_X5_isLoop N s a).bind fun p10 => (if p10.1 = 0 then (if x1 = 0 then if oK p10.2 a 0 then (if (CS.o p10.2 a 0) = 218 then some (x2, p10.2) else f_X6_nearest_7 N (n' + 1) p10.2 x1 (x2 + -1)) else none else f_X6_nearest_7 N (n' + 1) p10.2 x1 (x2 + -1)) else some (x2, p10.2)) else none) _
      refine ok_chk p5 (ok_bind (q_isLoop (N := N) p5) (fun q hq => ?_))
      obtain ⟨q1, q2⟩ := hq
      rw [q1]
      rcases q2 with ⟨q2, q3⟩ | ⟨q2, q3⟩
      · rw [if_pos q2]
        refine ok_ite (fun cx => ok_chk p5 (ok_ite (fun c2 => ok_some ⟨rfl, Or.inr ⟨a, p3.1, p3.2, p4, Or.inr ⟨cx, c2⟩⟩⟩) (fun _ => go))) (fun _ => go)
      · rw [q2, if_neg (by decide)]
        exact ok_some ⟨rfl, Or.inr ⟨a, p3.1, p3.2, p4, Or.inl q3⟩⟩
  termination_by n => n
theorem q_nearest {N : Nat} {H : HB} (hN : 10000000000 ≤ N) {s : CS} (h : CBS H s) (x1 : Int32) : ok (f_X6_nearest N s x1) (fun R => R.2 = s ∧ (R.1 < 0 ∨ (∃ a : Nat, 0 ≤ R.1.toInt ∧ R.1.toInt < cnI s ∧ s.r 51 R.1.toInt.toNat = some a ∧ (isLp (s.o a 0) ∨ (x1 = 0 ∧ s.o a 0 = 218))))) := by
  unfold f_X6_nearest
  obtain ⟨N', rfl⟩ : ∃ N', N = N' + 1 := ⟨N - 1, by omega⟩
  have cn := h.2.2.2.2.2.2.1
  have c0 : 0 ≤ (s.i 53).toInt := cn.1
  have c4 : (s.i 53).toInt ≤ 400 := cn.2.1
  have e1 : (1 : Int32).toInt = 1 := by decide
  have bl := Int32.le_toInt (s.i 56)
  have es : (s.i 53 - 1).toInt = (s.i 53).toInt - 1 := by rw [toInt_sub] <;> rw [e1] <;> omega
  exact q_near7 h x1 N' (s.i 53 - 1) (by show _ < (s.i 53).toInt; omega) (by omega)
theorem q_lb4 {N : Nat} {H : HB} {s : CS} (h : CBS H s) : ∀ (n : Nat) (x2 : Int32), 0 ≤ x2.toInt → x2.toInt ≤ 400 → 400 - x2.toInt < n → ok (f_X6_loopBehind_4 N n s x2) (fun R => R.2 = s ∧ (R.1 < 0 ∨ (∃ a : Nat, 0 ≤ R.1.toInt ∧ R.1.toInt < cnI s ∧ s.r 51 R.1.toInt.toNat = some a ∧ isLp (s.o a 0))))
  | 0, _, _, _, h => by omega
  | n + 1, x2, h0, h4, hn => by
    show ok (b_X6_loopBehind_4 N (f_X6_loopBehind_4 N n) s x2) _
    unfold b_X6_loopBehind_4 f_X6_loopBehind_32 f_X6_loopBehind_47
    have m1 : (-1 : Int32) < 0 := by decide
    have e1 : (1 : Int32).toInt = 1 := by decide
    refine ok_ite (fun _ => ok_some ⟨rfl, Or.inl m1⟩) (fun c => ?_)
    have l : x2.toInt < cnI s := lt_int (Int32.not_le.mp c)
    have cn := h.2.2.2.2.2.2.1
    have es : (x2 + 1).toInt = x2.toInt + 1 := by rw [toInt_add] <;> rw [e1] <;> omega
    refine ok_bind (q_row (N := N) h x2) (fun p hp => ?_)
    obtain ⟨p1, p2⟩ := hp
    rw [p1]
    rcases p2 with ⟨p2, p3⟩ | ⟨a, p2, p3, p4, p5⟩
    · rw [p2]; exact ok_some ⟨rfl, Or.inl m1⟩
    · rw [p2]
      show ok (if oK s a 0 then (if (CS.o s a 0) = 303 then f_X6_loopBehind_4 N n s (x2 + 1) else (if oK s a 0 then (f_X5_isLoop N s a).bind fun p12 => (if p12.1 = 0 then some ((-1), p12.2) else some (x2, p12.2)) else none)) else none) _
      refine ok_chk p5 (ok_ite (fun _ => q_lb4 h n (x2 + 1) (by omega) (by omega) (by omega)) (fun _ => ok_chk p5 (ok_bind (q_isLoop (N := N) p5) (fun q hq => ?_))))
      obtain ⟨q1, q2⟩ := hq
      rw [q1]
      rcases q2 with ⟨q2, q3⟩ | ⟨q2, q3⟩
      · rw [if_pos q2]; exact ok_some ⟨rfl, Or.inl m1⟩
      · rw [q2, if_neg (by decide)]; exact ok_some ⟨rfl, Or.inr ⟨a, p3.1, p3.2, p4, q3⟩⟩
/-- where a jump goes -/
def TGC (s : CS) (x1 x3 : Int32) : Prop := ∃ a : Nat, 0 ≤ x3.toInt ∧ x3.toInt < cnI s ∧ s.r 51 x3.toInt.toNat = some a ∧ (x1 = 0 → isLp (s.o a 0) ∨ s.o a 0 = 218 ∨ s.o a 0 = 303) ∧ (¬ x1 = 0 → isLp (s.o a 0))
theorem TGC.sx {p g d : Int} {s R : CS} {x1 x3 : Int32} (h : TGC s x1 x3) (hs : SX p g d s R) : TGC R x1 x3 := by
  obtain ⟨a, h1, h2, h3, h4, h5⟩ := h
  have ecn : cnI R = cnI s := by unfold cnI; rw [hs.2.2.2.1.2.1]
  have w := hs.2.2.2.2.2.1 x3.toInt.toNat (by omega)
  have w2 := (w.2 a h3).1
  exact ⟨a, h1, by omega, w.1.trans h3, by rw [w2]; exact h4, by rw [w2]; exact h5⟩
theorem ROW1.e9 {s : CS} {DT : Nat → List Nat} {KT : Nat → Prop} {a : Nat} {c0 c : List Nat} {lim lim' : List Int} (h : ROW1 s DT KT a c0 c lim lim') (hs : isLp (s.o a 0) ∨ s.o a 0 = 218 ∨ s.o a 0 = 303) : TTc (tcI s) DT KT (s.o a 9) c0 := by
  obtain ⟨h1, h2, h3⟩ := h
  obtain ⟨v, hv⟩ : ∃ v, v = s.o a 0 := ⟨_, rfl⟩
  rw [← hv] at hs
  unfold isLp at hs
  rcases h3 with ⟨z1, z2, e⟩ | ⟨z1, z2, z3, -⟩ | ⟨z1, z2, z3, e⟩ | ⟨z1, z2, z3, e⟩ | ⟨z1, z2, z3, z4, e⟩ | ⟨z1, z2, z3, z4, z5, e⟩ | ⟨z1, z2, z3, -⟩ | ⟨z1, z2, z3, e⟩ | ⟨z1, z2, z3, -⟩ | ⟨z1, z2, z3, -⟩ | ⟨z1, z2, z3, -⟩ | ⟨z1, z2, z3, e⟩
  · exfalso
    rw [← hv] at z1
    rcases z1 with z1 | z1 <;> rw [z1] at hs <;> exact absurd hs (by decide)
  · exact z3
  · exfalso
    rw [← hv] at z1
    rw [z1] at hs
    exact absurd hs (by decide)
  · exact z3
  · exact z3
  · exact z3
  · exact z3
  · exact z3
  · exact z3
  · exact z3
  · exact z3
  · exact z3
theorem ROW1.e10 {s : CS} {DT : Nat → List Nat} {KT : Nat → Prop} {a : Nat} {c0 c : List Nat} {lim lim' : List Int} (h : ROW1 s DT KT a c0 c lim lim') (hs : isLp (s.o a 0)) : TTc (tcI s) DT KT (s.o a 10) c0 := by
  obtain ⟨h1, h2, h3⟩ := h
  obtain ⟨v, hv⟩ : ∃ v, v = s.o a 0 := ⟨_, rfl⟩
  rw [← hv] at hs
  unfold isLp at hs
  have no : ∀ w : Int32, s.o a 0 = w → ¬ (w = 205 ∨ w = 206 ∨ w = 207 ∨ w = 304) → TTc (tcI s) DT KT (s.o a 10) c0 := fun w e q => absurd (by rw [← e, ← hv]; exact hs) q
  rcases h3 with ⟨z1, z2, e⟩ | ⟨z1, z2, z3, -⟩ | ⟨z1, z2, z3, e⟩ | ⟨z1, z2, z3, e⟩ | ⟨z1, z2, z3, z4, e⟩ | ⟨z1, z2, z3, z4, z5, e⟩ | ⟨z1, z2, z3, -⟩ | ⟨z1, z2, z3, e⟩ | ⟨z1, z2, z3, -⟩ | ⟨z1, z2, z3, -⟩ | ⟨z1, z2, z3, -⟩ | ⟨z1, z2, z3, e⟩
  · rcases z1 with z1 | z1
    · exact no _ z1 (by decide)
    · exact no _ z1 (by decide)
  · exact no _ z1 (by decide)
  · exact no _ z1 (by decide)
  · rcases z1 with z1 | z1
    · exact no _ z1 (by decide)
    · exact no _ z1 (by decide)
  · exact z4
  · exact z4
  · exact no _ z1 (by decide)
  · exact no _ z1 (by decide)
  · exact no _ z1 (by decide)
  · exact no _ z1 (by decide)
  · exact no _ z1 (by decide)
  · exact no _ z1 (by decide)
theorem q_jump72 {N : Nat} {H : HB} (hN : 1000 ≤ N) {x y p g : Int} {c : List Nat} {X : List (Nat × List Nat)} {P : List Nat} {lim : List Int} {s0 s : CS} {x1 x3 : Int32} (hx : x ≤ 4000) (hy : y ≤ 90) (h : JJ H x y c X P lim s) (h0 : S0G s0) (hp : 0 ≤ p) (hg : 0 ≤ g) (hs : s.i 32 = 0 → SX p g 0 s0 s ∧ TGC s x1 x3) : ok (f_X7_jump_72 N s x1 x3) (fun R => STQ H (x - 20) y X P lim s0 R.2) := by
  unfold f_X7_jump_72 f_X7_jump_129
  refine ok_bind (q_expJ hN h 59 (by decide)) (fun u hu => ?_)
  obtain ⟨j1, e1⟩ := hu
  have x1' : u.2.i 32 = 0 → SX 1 0 0 s0 u.2 ∧ TGC u.2 x1 x3 := fun z => by
    have w := hs (e1 z).1
    exact ⟨(w.1.tr (e1 z).sx).w (by omega) (by omega) (by omega), w.2.sx (e1 z).sx⟩
  have fin : ∀ (v : CS), JJ H (x - 60) y c X P lim v → (v.i 32 = 0 → SX 1 0 0 s0 v) → ok (some ((), CS.setI v 36 0)) (fun R => STQ H (x - 20) y X P lim s0 R.2) := fun v jv hv => by
    have ir := (IRR.rf jv.1).i 36 0 (by unfold IRJ; omega) (fun _ => Or.inl rfl)
    refine ok_some (STQ.pl (p := 1) (g := 0) ((jv.irr ir).w (by omega) (by omega)) h0 (fun z => ?_) (by omega) (by omega))
    have z1 := ir.f.1.symm.trans z
    exact ((hv z1).tr (ir.sx z1)).w (by omega) (by omega) (by omega)
  refine ok_bind (q_row (N := N) j1.1 x3) (fun r hr => ?_)
  obtain ⟨r1, r2⟩ := hr
  rw [r1]
  rcases r2 with ⟨r2, r3⟩ | ⟨a, r2, r3, r4, r5⟩
  · rw [r2]
    exact fin u.2 (j1.w (by omega) (Int.le_refl _)) (fun z => (x1' z).1)
  rw [r2]
  show ok ((f_X6_addJump N u.2 a x1).bind fun p29 => (if x1 = 0 then if oK p29.2 a 0 then (f_X7_leave N p29.2 (CS.o p29.2 a 9) (CS.o p29.2 a 2)).bind fun p35 => some ((), CS.setI p35.2 36 0) else none else if oK p29.2 a 0 then (f_X7_leave N p29.2 (CS.o p29.2 a 10) (CS.o p29.2 a 2)).bind fun p40 => some ((), CS.setI p40.2 36 0) else none)) _
  refine ok_bind (Q := fun w => IRR u.2 w.2) ?_ (fun w hw => ?_)
  · unfold f_X6_addJump f_X6_jumpTo
    refine ok_bind (Q := fun w => w.2 = u.2) (ok_chk r5 (ok_ite (fun _ => ok_some rfl) (fun _ => ok_some rfl))) (fun w hw => ?_)
    rw [hw]
    exact ok_some (((IRR.rf j1.1).a _).i 55 _ (by unfold IRJ; omega) (by omega))
  have j2 := j1.irr hw
  have wo : w.2.o = u.2.o := hw.1.2.2.2.1
  have wr : w.2.r = u.2.r := hw.1.2.2.2.2.2.2.1
  have okw : oK w.2 a 0 := by unfold oK at *; rw [hw.1.2.1, hw.1.2.2.1]; exact r5
  have ecn : cnI w.2 = cnI u.2 := by unfold cnI; rw [hw.2.1 53 (by unfold IRJ; omega)]
  have tg : w.2.i 32 = 0 → SX 1 0 0 s0 w.2 ∧ TGC w.2 x1 x3 := fun z => by
    have z1 := hw.f.1.symm.trans z
    have q := x1' z1
    exact ⟨(q.1.tr (hw.sx z1)).w (by omega) (by omega) (by omega), q.2.sx (hw.sx z1)⟩
  have wra : w.2.r 51 x3.toInt.toNat = some a := by rw [wr]; exact r4
  have sort : w.2.i 32 = 0 → (x1 = 0 → isLp (w.2.o a 0) ∨ w.2.o a 0 = 218 ∨ w.2.o a 0 = 303) ∧ (¬ x1 = 0 → isLp (w.2.o a 0)) := fun z => by
    obtain ⟨b, -, -, b3, b4, b5⟩ := (tg z).2
    rw [wra] at b3
    cases b3
    exact ⟨b4, b5⟩
  refine ok_ite (fun cx => ok_chk okw ?_) (fun cx => ok_chk okw ?_)
  · refine ok_bind (q_leave (c1 := c) j2.k _ _ (by omega) (by omega) (fun z => j2.ds z) (fun z DT KT _ qR => ?_)) (fun b hb => fin b.2 (JK.j hb.1 |>.w (by omega) (Int.le_refl _)) (fun z => ?_))
    · obtain ⟨c0, c1, L1, L0, r, g1, g2⟩ := (qR (cnI w.2).toNat (by have := j2.1.2.2.2.2.2.2.1.1; omega)).at x3.toInt.toNat a (by omega) wra
      exact ⟨c0, r, g1.e9 ((sort z).1 cx), g1.1, g2⟩
    · have z1 := (hb.2.1 z).1
      exact ((tg z1).1.tr (hb.2.1 z)).w (by omega) (by omega) (by omega)
  · refine ok_bind (q_leave (c1 := c) j2.k _ _ (by omega) (by omega) (fun z => j2.ds z) (fun z DT KT _ qR => ?_)) (fun b hb => fin b.2 (JK.j hb.1 |>.w (by omega) (Int.le_refl _)) (fun z => ?_))
    · obtain ⟨c0, c1, L1, L0, r, g1, g2⟩ := (qR (cnI w.2).toNat (by have := j2.1.2.2.2.2.2.2.1.1; omega)).at x3.toInt.toNat a (by omega) wra
      exact ⟨c0, r, g1.e10 ((sort z).2 cx), g1.1, g2⟩
    · have z1 := (hb.2.1 z).1
      exact ((tg z1).1.tr (hb.2.1 z)).w (by omega) (by omega) (by omega)
end
section
/-! the class's reading: break, continue, yield, whole -/
theorem q_labT {N : Nat} {H : HB} (hN : 10000000000 ≤ N) {x y : Int} {c : List Nat} {X : List (Nat × List Nat)} {P : List Nat} {lim : List Int} {s : CS} (h : JJ H x y c X P lim s) (x1 : Int32) (ht : s.i 43 = 2) : ok (f_X7_labelTarget N s x1) (fun R => JJ H (x - 100) y c X P lim R.2 ∧ (R.2.i 32 = 0 → EXR s R.2 ∧ TGC s x1 R.1)) := by
  have hN1 : 1000 ≤ N := by omega
  have fl : ∀ (v w : Int32), ¬ v = 0 → ok ((f_X1_fail N s v (s.i 44)).bind fun p20 => f_X7_labelTarget_63 N p20.2 w) (fun R => JJ H (x - 100) y c X P lim R.2 ∧ (R.2.i 32 = 0 → EXR s R.2 ∧ TGC s x1 R.1)) := fun v w hv => by
    unfold f_X7_labelTarget_63
    refine ok_bind (q_failC h.1 v _ hv) (fun p hp => ?_)
    have jp : JJ H x y c X P lim p.2 := JJ.flt h.1 hp
    refine ok_bind (q_advC hN1 jp.1) (fun q hq => ok_some ⟨jp.adv hq (fun z => absurd z hp.2.2.2.1), fun z => absurd (hq.f32.symm.trans z) hp.2.2.2.1⟩)
  have go : ∀ w : Int32, TGC s x1 w → ok (f_X7_labelTarget_63 N s w) (fun R => JJ H (x - 100) y c X P lim R.2 ∧ (R.2.i 32 = 0 → EXR s R.2 ∧ TGC s x1 R.1)) := fun w hw => by
    unfold f_X7_labelTarget_63
    refine ok_bind (q_advC hN1 h.1) (fun q hq => ok_some ?_)
    obtain ⟨j, e⟩ := h.tk hq (fun _ => by rw [ht]; decide)
    exact ⟨j, fun z => ⟨e z, hw⟩⟩
  unfold f_X7_labelTarget
  refine ok_bind (q_labelled hN h.1 s.l) (fun p hp => ?_)
  rw [hp.1]
  rcases hp.2 with ⟨r1, r2⟩ | ⟨a, r1, r2, r3, r4, r5⟩
  · rw [if_neg (fun z => by have l := le_int z; have l2 := lt_int r1; rw [z_t0] at l l2; omega)]
    exact fl 3 _ (by decide)
  · rw [if_pos (Int32.le_iff_toInt_le.mpr (by rw [z_t0]; exact r1))]
    refine ok_ite (fun cx => go p.1 ⟨a, r1, r3, r4, fun _ => Or.inr (Or.inr r5), fun z => absurd cx z⟩) (fun cx => ?_)
    have cn := h.1.2.2.2.2.2.2.1
    have e1 : (1 : Int32).toInt = 1 := by decide
    have es : (p.1 + 1).toInt = p.1.toInt + 1 := by rw [toInt_add] <;> rw [e1] <;> omega
    unfold f_X6_loopBehind
    refine ok_bind (q_lb4 (N := N) h.1 N (p.1 + 1) (by omega) (by omega) (by omega)) (fun q hq => ?_)
    rw [hq.1]
    rcases hq.2 with b1 | ⟨b, b1, b2, b3, b4⟩
    · rw [if_neg (fun z => by have l := le_int z; have l2 := lt_int b1; rw [z_t0] at l l2; omega)]
      exact fl 5 _ (by decide)
    · rw [if_pos (Int32.le_iff_toInt_le.mpr (by rw [z_t0]; exact b1))]
      exact go q.1 ⟨b, b1, b2, b3, fun _ => Or.inl b4, fun _ => b4⟩
theorem q_jump {N : Nat} {H : HB} (hN : 10000000000 ≤ N) {x y : Int} {c : List Nat} {X : List (Nat × List Nat)} {P : List Nat} {lim : List Int} {s : CS} (hx : x ≤ 4000) (hy : y ≤ 90) (h : JJ H x y c X P lim s) (h0 : S0G s) (ht : 200 ≤ (s.i 43).toInt) : ok (f_X7_jump N s) (fun R => STQ H (x - 20) y X P lim s R.2) := by
  have hN1 : 1000 ≤ N := by omega
  unfold f_X7_jump
  refine ok_bind (Q := fun w => w.2 = s) (ok_imp (q_found s 209) (fun w hw => hw.1)) (fun p hp => ?_)
  rw [hp]
  have ir := (IRR.rf h.1).i 26 (s.i 26 + 1) (by unfold IRJ; omega) (by omega)
  have j0 := h.irr ir
  have i43 := ir.f.2.1
  refine ok_bind (q_advC hN1 j0.1) (fun q hq => ?_)
  obtain ⟨j1, e1⟩ := j0.word hq (fun _ => by rw [i43]; exact ht)
  have e1' : q.2.i 32 = 0 → SX 2 3 0 s q.2 := fun z => ((ir.sx h0.1).tr (e1 z)).w (by omega) (by omega) (by omega)
  refine ok_bind (q_found q.2 2) (fun r hr => ?_)
  obtain ⟨r1, r2⟩ := hr
  rw [r1]
  rcases r2 with ⟨r2, r3⟩ | ⟨r2, r3⟩
  · rw [if_pos r2]
    refine ok_bind (q_nearest hN j1.1 p.1) (fun n hn => ?_)
    rw [hn.1]
    rcases hn.2 with n1 | ⟨a, n1, n2, n3, n4⟩
    · rw [if_neg (fun z => by have l := le_int z; have l2 := lt_int n1; rw [z_t0] at l l2; omega)]
      refine ok_bind (q_failC j1.1 5 _ (by decide)) (fun u hu => ?_)
      exact ok_imp (q_jump72 (p := 0) (g := 0) hN1 (by omega) (by omega) (JJ.flt (x := x - 200) (y := y - 3) (c := c) j1.1 hu) h0 (by omega) (by omega) (fun z => absurd z hu.2.2.2.1)) (fun R hR => hR.w (by omega) (by omega))
    · rw [if_pos (Int32.le_iff_toInt_le.mpr (by rw [z_t0]; exact n1))]
      refine ok_imp (q_jump72 (p := 2) (g := 3) hN1 (by omega) (by omega) j1 h0 (by omega) (by omega) (fun z => ⟨e1' z, a, n1, n2, n3, fun _ => ?_, fun c0 => ?_⟩)) (fun R hR => hR.w (by omega) (by omega))
      · rcases n4 with w | w
        · exact Or.inl w
        · exact Or.inr (Or.inl w.2)
      · rcases n4 with w | w
        · exact w
        · exact absurd w.1 c0
  · rw [r2, if_neg (by decide)]
    refine ok_bind (q_labT hN j1 p.1 r3) (fun n hn => ?_)
    obtain ⟨j2, e2⟩ := hn
    exact ok_imp (q_jump72 (p := 2) (g := 0) hN1 (by omega) (by omega) j2 h0 (by omega) (by omega) (fun z => ⟨((e1' (e2 z).1.1).tr (e2 z).1.sx).w (by omega) (by omega) (by omega), (e2 z).2.sx (e2 z).1.sx⟩)) (fun R hR => hR.w (by omega) (by omega))
/-- the rows that are there now stay -/
def rbB (s : CS) : (Nat → Option Nat) × (Nat → Prop) := (s.r 51, fun t => s.i 32 = 0 ∧ (t : Int) < tcI s ∧ 0 ≤ (s.a 17 t).toInt)
theorem CBS.rb {H : HB} {s : CS} (h : CBS H s) : CBS (H.1, rbB s) s := ⟨h.1, ⟨h.2.1.1, fun _ _ e => e, fun _ _ z => z.2⟩, h.2.2⟩
theorem CBS.bk {H : HB} {s R : CS} (h : CBS (H.1, rbB s) R) (hs : CBS H s) (h32 : R.i 32 = 0 → s.i 32 = 0) : CBS H R := ⟨h.1, ⟨h.2.1.1, fun i a e => h.2.1.2.1 i a (hs.2.1.2.1 i a e), fun q t ht => h.2.1.2.2 q t ⟨h32 q, hs.2.1.2.2 (h32 q) t ht⟩⟩, h.2.2⟩
theorem JJ.rb {H : HB} {x y : Int} {c : List Nat} {X : List (Nat × List Nat)} {P : List Nat} {lim : List Int} {s : CS} (h : JJ H x y c X P lim s) : JJ (H.1, rbB s) x y c X P lim s := ⟨h.1.rb, h.2⟩
theorem JJ.bk {H : HB} {x y : Int} {c : List Nat} {X : List (Nat × List Nat)} {P : List Nat} {lim : List Int} {s R : CS} (h : JJ (H.1, rbB s) x y c X P lim R) (hs : CBS H s) (h32 : R.i 32 = 0 → s.i 32 = 0) : JJ H x y c X P lim R := ⟨h.1.bk hs h32, h.2⟩
theorem CBS.st {H : HB} {s R : CS} (h : CBS (H.1, rbB s) R) {i a : Nat} (hi : i < 400) (e : s.r 51 i = some a) : R.r 51 i = some a ∧ oK R a 0 := by
  have w := h.2.1.2.1 i a e
  exact ⟨w, h.1.2.1 i a hi w⟩
theorem q_yield {N : Nat} {H : HB} (hN : 1000 ≤ N) {k : Int} {E1 : CS → Option (Unit × CS)} {E2 : CS → Option (Int32 × CS)} (hE : ∀ b, EC (H.1, b) k E1) {x y : Int} {c : List Nat} {X : List (Nat × List Nat)} {P : List Nat} {lim : List Int} {s : CS} (hx : x ≤ 4000) (hy : y + 3 * k ≤ 87 ∧ 0 ≤ k) (h : JJ H x y c X P lim s) (h0 : S0G s) (hk : 24 - sgI s ≤ k) (ht : 200 ≤ (s.i 43).toInt) : ok (f_X7_yieldValue N E1 E2 s) (fun R => STQ H (x - 20) y X P lim s R.2) := by
  have nf := h0.1
  unfold f_X7_yieldValue
  refine ok_bind (q_row (N := N) h.1 (s.i 56)) (fun r hr => ?_)
  obtain ⟨r1, r2⟩ := hr
  rw [r1]
  rcases r2 with ⟨r2, r3⟩ | ⟨a, r2, r3, r4, r5⟩
  · rw [r2]
    exact ok_bind (q_failC h.1 5 _ (by decide)) (fun p hp => ok_some (STQ.flt h.1 hp))
  rw [r2]
  show ok ((f_X9_advance N s).bind fun p11 => (f_X1_expression N E1 E2 p11.2).bind fun p15 => if oK p15.2 a 0 then (f_X0_add N p15.2 61 (((CS.o p15.2 a 9) * 32) + (CS.o p15.2 a 2))).bind fun p20 => (f_X1_expect N p20.2 59).bind fun p24 => some ((), CS.setI p24.2 36 0) else none) _
  have cn := h.1.2.2.2.2.2.2.1
  have nb9 := (h.2 nf).2.2.2.2.2.2.2.2.2
  have s2 : s.o a 0 = 302 := nb9.2.2 a r3.1 r4
  refine ok_bind (q_advC hN h.1) (fun p hp => ?_)
  obtain ⟨j1, e1⟩ := h.word hp (fun _ => ht)
  have pr : p.2.r = s.r := hp.1.1.2.2.2.2.2.2.2.1
  refine ok_bind (q_expression (E2 := E2) hN (hE (rbB p.2)) _ _ c X P lim p.2 (by omega) (by omega) j1.rb (fun z => by have := (e1 z).2.2.1; omega)) (fun q hq => ?_)
  obtain ⟨j2', e2⟩ := hq
  have st := j2'.1.st (s := p.2) (i := (s.i 56).toInt.toNat) (a := a) (by omega) (by rw [pr]; exact r4)
  have j2 := j2'.bk j1.1 (fun z => (e2 z).1)
  refine ok_chk st.2 ?_
  refine ok_bind (q_add N q.2 61 _) (fun b hb => ?_)
  have x2 : q.2.i 32 = 0 → SX 3 0 0 s q.2 := fun z => ((e1 (e2 z).1).tr (e2 z).sx).w (by omega) (by omega) (by omega)
  have j3 := j2.add hb (by omega) (by omega) (fun z DT KT _ qR _ => by
    have sx := x2 z
    have w := sx.2.2.2.2.2.1 (s.i 56).toInt.toNat (by omega)
    have o2 : q.2.o a 0 = 302 := by rw [(w.2 a r4).1]; exact s2
    have ecn : cnI q.2 = cnI s := by unfold cnI; rw [sx.2.2.2.1.2.1]
    obtain ⟨c0, c1, L1, L0, r, g1, g2⟩ := (qR (cnI q.2).toNat (by omega)).at (s.i 56).toInt.toNat a (by omega) st.1
    have tt : TTc (tcI q.2) DT KT (q.2.o a 9) c0 := by
      obtain ⟨h1, h2, h3⟩ := g1
      have no : ∀ v : Int32, q.2.o a 0 = v → ¬ v = 302 → TTc (tcI q.2) DT KT (q.2.o a 9) c0 := fun v e n => absurd (e.symm.trans o2) n
      rcases h3 with ⟨z1, z2, e⟩ | ⟨z1, z2, z3, -⟩ | ⟨z1, z2, z3, e⟩ | ⟨z1, z2, z3, e⟩ | ⟨z1, z2, z3, z4, e⟩ | ⟨z1, z2, z3, z4, z5, e⟩ | ⟨z1, z2, z3, -⟩ | ⟨z1, z2, z3, e⟩ | ⟨z1, z2, z3, -⟩ | ⟨z1, z2, z3, -⟩ | ⟨z1, z2, z3, -⟩ | ⟨z1, z2, z3, e⟩
      · rcases z1 with z1 | z1
        · exact no _ z1 (by decide)
        · exact no _ z1 (by decide)
      · exact z3
      · exact no _ z1 (by decide)
      · exact z3
      · exact z3
      · exact z3
      · exact z3
      · exact z3
      · exact z3
      · exact z3
      · exact z3
      · exact z3
    have ds := j2.ds z
    have sz := (j2.2 z).2.sz j2.1.2.2.1 j2.1.2.2.2.2.2.2.1.1 (by omega) (by omega)
    have l2 : c0.length ≤ c.length := by rw [g2, List.length_append]; omega
    have lv := lv32 (t := q.2.o a 9) (g := q.2.o a 2) ⟨tt.1, by have := tt.2.1; omega⟩ (by have := g1.1; omega)
    refine ⟨fun q => absurd q (by decide), fun q => absurd q (by decide), fun _ q => absurd q (by decide), fun _ q => absurd q (by decide), fun q => absurd q (by decide), fun q => absurd q (by decide), fun q => absurd q (by decide), fun q => absurd q (by decide), fun q => absurd q (by decide), fun q => absurd q (by decide), fun _ => ⟨c0.length, lv.2.trans g1.1, l2, ?_⟩, fun q => absurd q (by decide), by decide⟩
    rw [lv.1, g2, drop_suf]
    exact tt)
  refine ok_imp (q_endS (p := 0) (g := 0) hN j3 h0 (fun z => ?_) (by omega) (by omega)) (fun R hR => hR.w (by omega) (by omega))
  have z2 := hb.f32.1.symm.trans z
  exact ((x2 z2).tr (hb.sx z2)).w (by omega) (by omega) (by omega)
end
section
/-! the class's reading: for -/
theorem q_chHere {N : Nat} {H : HB} (hN : 1000 ≤ N) {k : Int} {E1 : CS → Option (Unit × CS)} {E2 : CS → Option (Int32 × CS)} (hE : EC H k E1) {x y : Int} {c : List Nat} {X : List (Nat × List Nat)} {P : List Nat} {lim : List Int} {s : CS} (hx : x ≤ 4000) (hy : y + 3 * k ≤ 90 ∧ 0 ≤ k) (h : JJ H x y c X P lim s) (hk : s.i 32 = 0 → 23 - sgI s ≤ k) (x1 : Int32) (ht : s.i 43 = 2) : ok (f_X7_changeHere N E1 E2 s x1) (fun R => JJ H (x - 120) (y - 2) c X P lim R.2 ∧ (R.2.i 32 = 0 → EXR s R.2)) := by
  unfold f_X7_changeHere
  refine ok_bind (q_advC hN h.1) (fun p hp => ?_)
  have gn := hp.gain h.1.2.2.1
  have g1 := gn.2.1 (by rw [ht]; decide)
  have g4 := gn.2.2.2.1 ht
  have es : eI s = plI s := eI.al (by unfold ALN; rw [ht]; decide)
  have j1 : JJ H (x - 100) (y - 2) c X P lim p.2 := h.adv hp (fun _ => by omega)
  have e1 := (h.tk hp (fun _ => by rw [ht]; decide)).2
  refine ok_bind (q_change (E2 := E2) hN hE (by omega) (by omega) j1 (fun z => by rw [(e1 z).sg]; exact hk (e1 z).1) s.l (s.i 44) x1) (fun q hq => ok_some ?_)
  exact ⟨hq.1.w (by omega) (by omega), fun z => (e1 (hq.2 z).1).tr (hq.2 z)⟩
/-- a loop's row, as its head leaves it -/
def FHP (H : HB) (x y : Int) (c : List Nat) (X : List (Nat × List Nat)) (P : List Nat) (lim : List Int) (s0 : CS) (R : Option Nat × CS) : Prop := ∃ (v : Int32) (a m : Nat) (X1 : List (Nat × List Nat)) (P1 : List Nat), R.1 = some a ∧ PRX H x y c c c X1 P1 lim v m a s0 3 3 0 R.2 ∧ (∀ q ∈ X, q ∈ X1) ∧ (R.2.o a 0 = 205 ∨ R.2.o a 0 = 207 ∨ R.2.o a 0 = 304) ∧ R.2.o a 2 = R.2.i 38 ∧ (R.2.i 32 = 0 → ∃ k : Nat, (R.2.o a 9).toInt = (k : Int) ∧ (k, c) ∈ X1) ∧ (R.2.i 32 = 0 → ∃ k : Nat, (R.2.o a 10).toInt = (k : Int) ∧ (k, c) ∈ X1) ∧ (R.2.i 32 = 0 → ∀ k ∈ P1, k ∈ P ∨ (R.2.o a 9).toInt = (k : Int))
/-- the number of names goes back -/
theorem FHP.end {N : Nat} {H : HB} {x y : Int} {c : List Nat} {X : List (Nat × List Nat)} {P : List Nat} {lim : List Int} {s0 : CS} {E1 : CS → Option (Unit × CS)} {E2 : CS → Option (Int32 × CS)} {R : Option Nat × CS} (h : FHP H x y c X P lim s0 R) (h0 : S0G s0) : ok (oCase R.1 (f_X7_beginFor_85 N E1 E2 R.2 (s0.i 50) none) (fun a => f_X7_beginFor_85 N E1 E2 R.2 (s0.i 50) (some a))) (fun T => STQ H (x + 50) y X P lim s0 T.2 ∧ T.2.i 32 = R.2.i 32) := by
  obtain ⟨v, a, m, X1, P1, r1, px, hX, o0, o2, o9, o10, oP⟩ := h
  rw [r1]
  unfold f_X7_beginFor_85
  show ok (if oK R.2 a 0 then some ((), CS.setO R.2 a 3 (s0.i 50)) else none) _
  refine ok_chk px.1.2.1.1 (ok_some ?_)
  have n5 : 0 ≤ (s0.i 50).toInt ∧ (s0.i 50).toInt ≤ 128 := ⟨h0.2.2.2.2.2.2.1, h0.2.2.2.2.2.2.2.1⟩
  have ou := (OUV.rf R.2 a).o 3 (s0.i 50)
  have cT := px.1.1.o a 3 (s0.i 50) (by omega) (fun _ => n5)
  have py := px.cel ou cT
  have To : (CS.setO R.2 a 3 (s0.i 50)).o a = upd (R.2.o a) 3 (s0.i 50) := ou.2.2.1
  have Ti : (CS.setO R.2 a 3 (s0.i 50)).i = R.2.i := ou.1.2.2.2.2.2.2.2.2.2
  show STQ H (x + 50) y X P lim s0 (CS.setO R.2 a 3 (s0.i 50)) ∧ (CS.setO R.2 a 3 (s0.i 50)).i 32 = R.2.i 32
  refine ⟨?_, by rw [Ti]⟩
  generalize CS.setO R.2 a 3 (s0.i 50) = T at *
  have T9 : T.o a 9 = R.2.o a 9 := by rw [To]; rfl
  refine PRX.loop py h0 hX (by rw [To]; exact o0) (by rw [To, Ti]; exact o2) (fun nf => ?_) (fun nf => ?_) (fun nf => ?_) (fun nf => ?_) (by omega) (by omega)
  · have e : (T.o a 3).toInt = nmI s0 := by rw [To]; rfl
    rw [e]
    exact ⟨Int.le_refl _, py.nm nf⟩
  · rw [T9]; exact o9 (by rw [← Ti]; exact nf)
  · have e : T.o a 10 = R.2.o a 10 := by rw [To]; rfl
    rw [e]; exact o10 (by rw [← Ti]; exact nf)
  · rw [T9]; exact oP (by rw [← Ti]; exact nf)
theorem q_fh113 {N : Nat} {H : HB} (hN : 1000 ≤ N) {E1 : CS → Option (Unit × CS)} {E2 : CS → Option (Int32 × CS)} {x y : Int} {c : List Nat} {X X1 : List (Nat × List Nat)} {P : List Nat} {lim : List Int} {s0 s : CS} {x1 x2 x3 x4 x5 : Int32} {n1 n2 n3 n4 : Nat} (hx : x ≤ 4000) (hy : y ≤ 90) (h : JJ H x y c X1 (n3 :: n4 :: P) lim s) (h0 : S0G s0) (hs : s.i 32 = 0 → SX 3 3 1 s0 s) (hX : ∀ q ∈ X, q ∈ X1) (h1 : s.i 32 = 0 → x1.toInt = (n1 : Int) ∧ (n1, c) ∈ X1) (h2 : s.i 32 = 0 → x2.toInt = (n2 : Int) ∧ (n2, c) ∈ X1) (h3 : s.i 32 = 0 → x3.toInt = (n3 : Int) ∧ (n3, c) ∈ X1) (h4 : s.i 32 = 0 → x4.toInt = (n4 : Int) ∧ (n4, c) ∈ X1) (h5 : bo x5) : ok (f_X7_forHead_113 N E1 E2 s x1 x2 x3 x4 x5) (fun R => FHP H (x - 98) y c X P lim s0 R ∧ (R.2.i 32 = 0 → s.i 32 = 0)) := by
  unfold f_X7_forHead_113
  refine ok_bind (q_clos hN h (fun z => ?_) 41 (by decide)) (fun p hp => ?_)
  · have sx := hs z
    have ecn : cnI s = cnI s0 := by unfold cnI; rw [sx.2.2.2.1.2.1]
    obtain ⟨i1, i2, i3, i4, i5⟩ := sx.2.2.2.2.2.1.sums h0.2.1
    have := sx.2.2.1
    have := h0.2.2.2.2.1.2
    have := h0.2.2.2.2.2.2.2.2
    rw [ecn, i2]
    omega
  obtain ⟨j1, m1⟩ := hp
  have e1 : p.2.i 32 = 0 → s.i 32 = 0 ∧ SX 3 3 0 s0 p.2 := fun z => ⟨(m1 z).1, ((hs (m1 z).1).tr (m1 z).sx).w (by omega) (by omega) (by omega)⟩
  refine ok_bind (q_add N p.2 30 x1) (fun q hq => ?_)
  have j2 := j1.add hq (by omega) (by omega) (fun z DT KT w _ _ => IOK.jmp (by decide) (h1 (e1 z).1).1 (h1 (e1 z).1).2 w)
  refine ok_bind (q_aim N q.2 x3) (fun r hr => ?_)
  have j3 : JJ H (x - 100 + 1) y c X1 (n4 :: P) lim r.2 := j2.aimF hr (by omega) (by omega) (fun z => by
    have w := h3 (e1 (hq.f32.1.symm.trans z)).1
    refine ⟨⟨n3, w⟩, fun k hk => ?_⟩
    rcases List.mem_cons.mp hk with e | e
    · right; rw [e]; exact w.1.symm
    · exact Or.inl e)
  refine ok_bind (q_add N r.2 51 0) (fun u hu => ?_)
  have j4 := j3.add hu (by omega) (by omega) (fun _ _ _ _ _ _ => IOK.fall (by decide))
  have e4 : u.2.i 32 = 0 → s.i 32 = 0 ∧ SX 3 3 0 s0 u.2 := fun z => by
    have z1 := hu.f32.1.symm.trans z
    have z2 := hr.f.1.symm.trans z1
    have z3 := hq.f32.1.symm.trans z2
    exact ⟨(e1 z3).1, ((((e1 z3).2.tr (hq.sx z3)).tr (hr.sx z2)).tr (hu.sx z1)).w (by omega) (by omega) (by omega)⟩
  refine ok_bind (q_pushLoop (N := N) j4.k (fun z => (e4 z).2) 207 x2 x4) (fun w hw => ?_)
  obtain ⟨v, a, m, r1, px, ⟨o0, o2, o3⟩, ⟨o9, o10⟩, ri, ra⟩ := hw
  rw [r1]
  show ok (if x5 = 0 ∨ x5 = 1 then (if oK w.2 a 0 then some ((some a), CS.setO w.2 a 7 x5) else none) else none) _
  refine ok_chk h5 (ok_chk px.1.2.1.1 (ok_some ?_))
  have ou := (OUV.rf w.2 a).o 7 x5
  have cT := px.1.1.o a 7 x5 (fun _ => h5) (by omega)
  have py := px.cel ou cT
  have To : (CS.setO w.2 a 7 x5).o a = upd (w.2.o a) 7 x5 := ou.2.2.1
  have Ti : (CS.setO w.2 a 7 x5).i = w.2.i := ou.1.2.2.2.2.2.2.2.2.2
  generalize CS.setO w.2 a 7 x5 = T at *
  have nT : T.i 32 = 0 → s.i 32 = 0 := fun z => by
    rw [Ti, ri 32 (by decide) (by decide)] at z
    exact (e4 z).1
  have T9 : T.o a 9 = x4 := by rw [To]; exact o9
  have T10 : T.o a 10 = x2 := by rw [To]; exact o10
  refine ⟨⟨v, a, m, X1, n4 :: P, rfl, py.w (by omega) (by omega), hX, Or.inr (Or.inl (by show T.o a 0 = 207; rw [To]; exact o0)), (by show T.o a 2 = T.i 38; rw [To, Ti]; exact o2), fun z => ⟨n4, ?_⟩, fun z => ⟨n2, ?_⟩, fun z k hk => ?_⟩, nT⟩
  · show (T.o a 9).toInt = (n4 : Int) ∧ (n4, c) ∈ X1
    rw [T9]; exact h4 (nT z)
  · show (T.o a 10).toInt = (n2 : Int) ∧ (n2, c) ∈ X1
    rw [T10]; exact h2 (nT z)
  · show k ∈ P ∨ (T.o a 9).toInt = (k : Int)
    rcases List.mem_cons.mp hk with e | e
    · right; rw [T9, e]; exact (h4 (nT z)).1
    · exact Or.inl e
end
section
/-! the class's reading: the head of a for -/
theorem JJ.perm {H : HB} {x y : Int} {c : List Nat} {X : List (Nat × List Nat)} {P P' : List Nat} {lim : List Int} {s : CS} (h : JJ H x y c X P lim s) (hP : s.i 32 = 0 → ∀ k ∈ P, k ∈ P') : JJ H x y c X P' lim s := JK.j (h.k.perm hP)
theorem q_fh76 {N : Nat} {H : HB} (hN : 1000 ≤ N) {k : Int} {E1 : CS → Option (Unit × CS)} {E2 : CS → Option (Int32 × CS)} (hE : EC H k E1) {x y : Int} {c : List Nat} {X X1 : List (Nat × List Nat)} {P : List Nat} {lim : List Int} {s0 s : CS} {x1 x2 x3 x4 x5 : Int32} {n1 n2 n3 n4 : Nat} (hx : x ≤ 4000) (hy : y + 3 * k ≤ 90 ∧ 0 ≤ k) (h : JJ H x y c X1 (n2 :: n3 :: n4 :: P) lim s) (h0 : S0G s0) (hk : 24 - sgI s0 ≤ k) (hs : s.i 32 = 0 → SX 3 3 1 s0 s) (hX : ∀ q ∈ X, q ∈ X1) (h1 : s.i 32 = 0 → x1.toInt = (n1 : Int) ∧ (n1, c) ∈ X1) (h2 : s.i 32 = 0 → x2.toInt = (n2 : Int) ∧ (n2, c) ∈ X1) (h3 : s.i 32 = 0 → x3.toInt = (n3 : Int) ∧ (n3, c) ∈ X1) (h4 : s.i 32 = 0 → x4.toInt = (n4 : Int) ∧ (n4, c) ∈ X1) (h5 : bo x5) : ok (f_X7_forHead_76 N E1 E2 s x1 x2 x3 x4 x5) (fun R => FHP H (x - 98) y c X P lim s0 R ∧ (R.2.i 32 = 0 → s.i 32 = 0)) := by
  unfold f_X7_forHead_76
  refine ok_bind (q_add N s 30 x3) (fun p hp => ?_)
  have j1 := h.add hp (by omega) (by omega) (fun z DT KT w _ _ => IOK.jmp (by decide) (h3 z).1 (h3 z).2 w)
  refine ok_bind (q_expJ hN j1 59 (by decide)) (fun q hq => ?_)
  obtain ⟨j2, e2⟩ := hq
  have e2' : q.2.i 32 = 0 → s.i 32 = 0 ∧ SX 3 3 1 s0 q.2 := fun z => by
    have z1 := (e2 z).1
    have z2 := hp.f32.1.symm.trans z1
    exact ⟨z2, (((hs z2).tr (hp.sx z2)).tr (e2 z).sx).w (by omega) (by omega) (by omega)⟩
  refine ok_bind (q_aim N q.2 x2) (fun r hr => ?_)
  have j3 : JJ H (x + 1 - 100) y c X1 (n3 :: n4 :: P) lim r.2 := j2.aimF hr (by omega) (by omega) (fun z => by
    have w := h2 (e2' z).1
    refine ⟨⟨n2, w⟩, fun k hk => ?_⟩
    rcases List.mem_cons.mp hk with e | e
    · right; rw [e]; exact w.1.symm
    · exact Or.inl e)
  have e3 : r.2.i 32 = 0 → s.i 32 = 0 ∧ SX 3 3 1 s0 r.2 := fun z => by
    have z1 := hr.f.1.symm.trans z
    exact ⟨(e2' z1).1, ((e2' z1).2.tr (hr.sx z1)).w (by omega) (by omega) (by omega)⟩
  have fin : ∀ u : CS, JJ H (x - 99) y c X1 (n3 :: n4 :: P) lim u → (u.i 32 = 0 → s.i 32 = 0 ∧ SX 3 3 1 s0 u) → ok (f_X7_forHead_113 N E1 E2 u x1 x2 x3 x4 x5) (fun R => FHP H (x - 98) y c X P lim s0 R ∧ (R.2.i 32 = 0 → s.i 32 = 0)) := fun u ju hu => by
    have w := q_fh113 (N := N) (E1 := E1) (E2 := E2) (X := X) hN (by omega) (by omega) ju h0 (fun z => (hu z).2) hX (fun z => h1 (hu z).1) (fun z => h2 (hu z).1) (fun z => h3 (hu z).1) (fun z => h4 (hu z).1) h5
    refine ok_imp w (fun R hR => ⟨?_, fun z => (hu (hR.2 z)).1⟩)
    obtain ⟨v, a, m, Y1, P1, r1, px, rest⟩ := hR.1
    exact ⟨v, a, m, Y1, P1, r1, px.w (by omega) (Int.le_refl _), rest⟩
  refine ok_bind (q_found r.2 2) (fun f hf => ?_)
  obtain ⟨f1, f2⟩ := hf
  rw [f1]
  rcases f2 with ⟨f2, f3⟩ | ⟨f2, f3⟩
  · rw [if_pos f2]; exact fin r.2 (j3.w (by omega) (Int.le_refl _)) e3
  · rw [f2, if_neg (by decide)]
    refine ok_bind (q_chHere (E2 := E2) hN hE (by omega) (by omega) j3 (fun z => by have := (e3 z).2.2.2.1; omega) 1 f3) (fun u hu => ?_)
    exact fin u.2 (hu.1.w (by omega) (by omega)) (fun z => ⟨(e3 (hu.2 z).1).1, ((e3 (hu.2 z).1).2.tr (hu.2 z).sx).w (by omega) (by omega) (by omega)⟩)
theorem FHP.w {H : HB} {x y x' y' : Int} {c : List Nat} {X : List (Nat × List Nat)} {P : List Nat} {lim : List Int} {s0 : CS} {R : Option Nat × CS} (h : FHP H x y c X P lim s0 R) (hx : x ≤ x') (hy : y ≤ y') : FHP H x' y' c X P lim s0 R := by
  obtain ⟨v, a, m, Y1, P1, r1, px, rest⟩ := h
  exact ⟨v, a, m, Y1, P1, r1, px.w hx hy, rest⟩
theorem q_forHead {N : Nat} {H : HB} (hN : 1000 ≤ N) {k : Int} {E1 : CS → Option (Unit × CS)} {E2 : CS → Option (Int32 × CS)} (hE : EC H k E1) (hE2 : EC2 H k E2) {x y : Int} {c : List Nat} {X : List (Nat × List Nat)} {P : List Nat} {lim : List Int} {s0 s : CS} (hx : x ≤ 4000) (hy : y + 3 * k ≤ 86 ∧ 0 ≤ k) (h : JJ H x y c X P lim s) (h0 : S0G s0) (hk : 24 - sgI s0 ≤ k) (hs : s.i 32 = 0 → SX 3 3 1 s0 s) : ok (f_X7_forHead N E1 E2 s) (fun R => FHP H x (y + 4) c X P lim s0 R ∧ (R.2.i 32 = 0 → s.i 32 = 0 ∧ s.i 43 = 59)) := by
  unfold f_X7_forHead
  refine ok_bind (q_newTarget N s) (fun p hp => ?_)
  obtain ⟨t1, t2⟩ := hp
  have j1 : JJ H x (y + 1) c _ _ lim p.2 := h.new t1 (by omega) (by omega) c
  have et : s.i 32 = 0 → p.1.toInt = ((tcI s).toNat : Int) := fun z => NTG.t h.k z t2
  have f1 := t1.f
  obtain ⟨t, ht'⟩ : ∃ t, t = (tcI s).toNat := ⟨_, rfl⟩
  rw [← ht'] at j1 et
  refine ok_bind (q_newTarget N p.2) (fun q hq => ?_)
  obtain ⟨u1, u2⟩ := hq
  have j2 : JJ H x (y + 1 + 1) c _ _ lim q.2 := j1.new u1 (by omega) (by omega) c
  have eu : s.i 32 = 0 → q.1.toInt = ((tcI p.2).toNat : Int) := fun z => NTG.t j1.k (f1.1.trans z) u2
  have f2 := u1.f
  obtain ⟨u, hu'⟩ : ∃ u, u = (tcI p.2).toNat := ⟨_, rfl⟩
  rw [← hu'] at j2 eu
  refine ok_bind (q_newTarget N q.2) (fun r hr => ?_)
  obtain ⟨v1, v2⟩ := hr
  have j3 : JJ H x (y + 1 + 1 + 1) c _ _ lim r.2 := j2.new v1 (by omega) (by omega) c
  have ev : s.i 32 = 0 → r.1.toInt = ((tcI q.2).toNat : Int) := fun z => NTG.t j2.k (f2.1.trans (f1.1.trans z)) v2
  have f3 := v1.f
  obtain ⟨v, hv'⟩ : ∃ v, v = (tcI q.2).toNat := ⟨_, rfl⟩
  rw [← hv'] at j3 ev
  refine ok_bind (q_newTarget N r.2) (fun a ha => ?_)
  obtain ⟨w1, w2⟩ := ha
  have j4 : JJ H x (y + 1 + 1 + 1 + 1) c _ _ lim a.2 := j3.new w1 (by omega) (by omega) c
  have ew : s.i 32 = 0 → a.1.toInt = ((tcI r.2).toNat : Int) := fun z => NTG.t j3.k (f3.1.trans (f2.1.trans (f1.1.trans z))) w2
  have f4 := w1.f
  obtain ⟨w, hw'⟩ : ∃ w, w = (tcI r.2).toNat := ⟨_, rfl⟩
  rw [← hw'] at j4 ew
  have na : a.2.i 32 = s.i 32 := f4.1.trans (f3.1.trans (f2.1.trans f1.1))
  have ta : a.2.i 43 = s.i 43 := f4.2.1.trans (f3.2.1.trans (f2.2.1.trans f1.2.1))
  have sa : s.i 32 = 0 → SX 3 3 1 s0 a.2 := fun z => (((((hs z).tr (t1.sx z)).tr (u1.sx (f1.1.trans z))).tr (v1.sx (f2.1.trans (f1.1.trans z)))).tr (w1.sx (f3.1.trans (f2.1.trans (f1.1.trans z))))).w (by omega) (by omega) (by omega)
  have mw : (w, c) ∈ (w, c) :: (v, c) :: (u, c) :: (t, c) :: X := List.mem_cons_self ..
  have mv : (v, c) ∈ (w, c) :: (v, c) :: (u, c) :: (t, c) :: X := List.mem_cons_of_mem _ (List.mem_cons_self ..)
  have mu : (u, c) ∈ (w, c) :: (v, c) :: (u, c) :: (t, c) :: X := List.mem_cons_of_mem _ (List.mem_cons_of_mem _ (List.mem_cons_self ..))
  have mt : (t, c) ∈ (w, c) :: (v, c) :: (u, c) :: (t, c) :: X := List.mem_cons_of_mem _ (List.mem_cons_of_mem _ (List.mem_cons_of_mem _ (List.mem_cons_self ..)))
  have hX : ∀ q ∈ X, q ∈ (w, c) :: (v, c) :: (u, c) :: (t, c) :: X := fun q hq => List.mem_cons_of_mem _ (List.mem_cons_of_mem _ (List.mem_cons_of_mem _ (List.mem_cons_of_mem _ hq)))
  generalize hXX : (w, c) :: (v, c) :: (u, c) :: (t, c) :: X = X1 at *
  clear hXX
  refine ok_bind (q_expect hN j4.1 59) (fun b hb => ?_)
  have hb' : JJ H (x - 100) (y + 4) c X1 (w :: v :: u :: t :: P) lim b.2 ∧ (b.2.i 32 = 0 → s.i 32 = 0 ∧ s.i 43 = 59 ∧ SX 3 3 1 s0 b.2) := by
    rcases hb with hf | ⟨b1, b2⟩
    · exact ⟨JJ.flt j4.1 hf, fun q => absurd q hf.2.2.2.1⟩
    · obtain ⟨jb, eb⟩ := j4.tk b2 (fun _ => by rw [b1]; decide)
      exact ⟨jb.w (Int.le_refl _) (by omega), fun z => ⟨na.symm.trans (eb z).1, ta.symm.trans b1, ((sa (na.symm.trans (eb z).1)).tr (eb z).sx).w (by omega) (by omega) (by omega)⟩⟩
  obtain ⟨j5, e5⟩ := hb'
  refine ok_bind (q_aim N b.2 p.1) (fun d hd => ?_)
  have j6 : JJ H (x - 100) (y + 4) c X1 (u :: v :: w :: P) lim d.2 := j5.aimF hd (by omega) (by omega) (fun z => by
    have z1 := (e5 z).1
    refine ⟨⟨t, et z1, mt⟩, fun k hk => ?_⟩
    rcases List.mem_cons.mp hk with e | e
    · left; rw [e]; exact List.mem_cons_of_mem _ (List.mem_cons_of_mem _ (List.mem_cons_self ..))
    · rcases List.mem_cons.mp e with e | e
      · left; rw [e]; exact List.mem_cons_of_mem _ (List.mem_cons_self ..)
      · rcases List.mem_cons.mp e with e | e
        · left; rw [e]; exact List.mem_cons_self ..
        · rcases List.mem_cons.mp e with e | e
          · right; rw [e]; exact (et z1).symm
          · left; exact List.mem_cons_of_mem _ (List.mem_cons_of_mem _ (List.mem_cons_of_mem _ e)))
  have e6 : d.2.i 32 = 0 → s.i 32 = 0 ∧ s.i 43 = 59 ∧ SX 3 3 1 s0 d.2 := fun z => by
    have z1 := hd.f.1.symm.trans z
    exact ⟨(e5 z1).1, (e5 z1).2.1, ((e5 z1).2.2.tr (hd.sx z1)).w (by omega) (by omega) (by omega)⟩
  have fin : ∀ (g : CS) (x5 : Int32), JJ H (x - 90) (y + 4) c X1 (u :: v :: w :: P) lim g → (g.i 32 = 0 → s.i 32 = 0 ∧ s.i 43 = 59 ∧ SX 3 3 1 s0 g) → bo x5 → ok (f_X7_forHead_76 N E1 E2 g p.1 q.1 r.1 a.1 x5) (fun R => FHP H x (y + 4) c X P lim s0 R ∧ (R.2.i 32 = 0 → s.i 32 = 0 ∧ s.i 43 = 59)) := fun g x5 jg hg h5 => by
    refine ok_imp (q_fh76 (X := X) hN hE (by omega) (by omega) jg h0 hk (fun z => (hg z).2.2) hX (fun z => ⟨et (hg z).1, mt⟩) (fun z => ⟨eu (hg z).1, mu⟩) (fun z => ⟨ev (hg z).1, mv⟩) (fun z => ⟨ew (hg z).1, mw⟩) h5) (fun R hR => ⟨hR.1.w (by omega) (Int.le_refl _), fun z => ⟨(hg (hR.2 z)).1, (hg (hR.2 z)).2.1⟩⟩)
  refine ok_bind (q_found d.2 59) (fun f hf => ?_)
  obtain ⟨g1, g2⟩ := hf
  rw [g1]
  rcases g2 with ⟨g2, g3⟩ | ⟨g2, g3⟩
  · rw [if_pos g2]
    refine ok_bind (q_condition (E1 := E1) hN hE2 _ _ c _ _ lim d.2 (by omega) (by omega) j6 (fun z => by have := (e6 z).2.2.2.2.1; omega)) (fun i hi => ?_)
    obtain ⟨⟨j7, e7⟩, b7⟩ := hi
    refine ok_bind (q_add N i.2 31 a.1) (fun l hl => ?_)
    have j8 := j7.add hl (by omega) (by omega) (fun z DT KT qX _ _ => IOK.jmp (by decide) (ew (e6 (e7 z).1).1) mw qX)
    refine fin l.2 i.1 (j8.w (by omega) (by omega)) (fun z => ?_) b7
    have z1 := hl.f32.1.symm.trans z
    have k6 := e6 (e7 z1).1
    exact ⟨k6.1, k6.2.1, ((k6.2.2.tr (e7 z1).sx).tr (hl.sx z1)).w (by omega) (by omega) (by omega)⟩
  · rw [g2, if_neg (by decide)]
    exact fin d.2 1 (j6.w (by omega) (by omega)) e6 (Or.inr rfl)
end
section
/-! the class's reading: a for of a row; for, whole -/
theorem q_rv60 {N : Nat} {H : HB} {E1 : CS → Option (Unit × CS)} {E2 : CS → Option (Int32 × CS)} {x y : Int} {c : List Nat} {X : List (Nat × List Nat)} {P : List Nat} {lim : List Int} {s : CS} (hx : x ≤ 4500) (hy : y ≤ 92) (h : JJ H x y c X P lim s) (x1 : Int32) : ok (f_X7_rowValues_60 N E1 E2 s x1) (fun R => JJ H (x + 2) y c X P lim R.2 ∧ (R.2.i 32 = 0 → SX 0 0 0 s R.2)) := by
  unfold f_X7_rowValues_60 f_X0_newCells
  refine ok_bind (Q := fun w => IRR s w.2) (ok_some ((IRR.rf h.1).i 23 _ (by unfold IRJ; omega) (by omega))) (fun w hw => ?_)
  have j1 := h.irr hw
  refine ok_bind (q_add N w.2 0 x1) (fun p hp => ?_)
  have j2 := j1.add hp (by omega) (by omega) (fun _ _ _ _ _ _ => IOK.fall (by decide))
  refine ok_bind (q_add N p.2 36 w.1) (fun q hq => ok_some ?_)
  have j3 := j2.add hq (by omega) (by omega) (fun _ _ _ _ _ _ => IOK.fall (by decide))
  refine ⟨j3.w (by omega) (Int.le_refl _), fun z => ?_⟩
  have z1 := hq.f32.1.symm.trans z
  have z2 := hp.f32.1.symm.trans z1
  have z3 := hw.f.1.symm.trans z2
  exact (((hw.sx z3).tr (hp.sx z2)).tr (hq.sx z1)).w (by omega) (by omega) (by omega)
theorem q_rv31 {N : Nat} {H : HB} (hN : 1000 ≤ N) {k : Int} {E1 : CS → Option (Unit × CS)} {E2 : CS → Option (Int32 × CS)} (hE : EC H k E1) {x y : Int} {c : List Nat} {X : List (Nat × List Nat)} {P : List Nat} {lim : List Int} {s : CS} (hx : x ≤ 4000) (hy : y + 3 * k ≤ 90 ∧ 0 ≤ k) (hk : s.i 32 = 0 → 23 - sgI s ≤ k) : ∀ (n : Nat) (σ : CS) (x1 x2 : Int32), 0 ≤ x2.toInt → x2.toInt ≤ 900 → 900 - x2.toInt < n → JJ H x y c X P lim σ → (σ.i 32 = 0 → SX 1 0 0 s σ) → ok (f_X7_rowValues_31 N E1 E2 n σ x1 x2) (fun R => JJ H (x + 2) y c X P lim R.2 ∧ (R.2.i 32 = 0 → SX 1 0 0 s R.2))
  | 0, _, _, _, _, _, h, _, _ => by omega
  | n + 1, σ, x1, x2, h0, h9, hn, hj, he => by
    show ok (b_X7_rowValues_31 N E1 E2 (f_X7_rowValues_31 N E1 E2 n) σ x1 x2) _
    unfold b_X7_rowValues_31
    have e9 : (900 : Int32).toInt = 900 := by decide
    have e1 : (1 : Int32).toInt = 1 := by decide
    have out : ok (f_X7_rowValues_60 N E1 E2 σ x1) (fun R => JJ H (x + 2) y c X P lim R.2 ∧ (R.2.i 32 = 0 → SX 1 0 0 s R.2)) := ok_imp (q_rv60 (by omega) (by omega) hj x1) (fun R hR => ⟨hR.1, fun z => ((he (hR.2 z).1).tr (hR.2 z)).w (by omega) (by omega) (by omega)⟩)
    refine ok_ite (fun _ => out) (fun c9 => ?_)
    have l : x2.toInt < 900 := by
      have := lt_int (Int32.not_le.mp c9)
      rw [e9] at this; exact this
    have es : (x2 + 1).toInt = x2.toInt + 1 := by rw [toInt_add] <;> rw [e1] <;> omega
    refine ok_bind (q_skip hN hj.1 44) (fun p hp => ?_)
    rcases hp with ⟨p1, p2, p3⟩ | ⟨p1, p2, p3⟩
    · rw [if_pos p1, p2]; exact out
    · rw [p1, if_neg (by decide)]
      obtain ⟨j1, t1⟩ := hj.tk p3 (fun _ => by rw [p2]; decide)
      have t1' : p.2.i 32 = 0 → SX 1 0 0 s p.2 := fun z => ((he (t1 z).1).tr (t1 z).sx).w (by omega) (by omega) (by omega)
      refine ok_bind (q_expression (E2 := E2) hN hE _ _ c X P lim p.2 (by omega) (by omega) j1 (fun z => by have := (t1' z).2.2.1; have := hk (t1' z).1; omega)) (fun q hq => ?_)
      exact q_rv31 hN hE hx (by omega) hk n q.2 (x1 + 1) (x2 + 1) (by omega) (by omega) (by omega) (hq.1.w (by omega) (Int.le_refl _)) (fun z => ((t1' (hq.2 z).1).tr (hq.2 z).sx).w (by omega) (by omega) (by omega))
theorem q_throwNull {N : Nat} {H : HB} {x y : Int} {cD c d c1 : List Nat} {X : List (Nat × List Nat)} {P : List Nat} {lim : List Int} {s : CS} (hx : x ≤ 4500) (hy : y ≤ 92) (h : JK H x y cD c d X P lim s) (hl : s.i 32 = 0 → cD.length ≤ 21) : ok (f_X7_throwNull N s) (fun R => JK H (x + 2) y c1 c d X P lim R.2 ∧ (R.2.i 32 = 0 → SX 0 0 0 s R.2) ∧ R.2.i 43 = s.i 43) := by
  unfold f_X7_throwNull
  refine ok_bind (q_add N s 0 0) (fun p hp => ?_)
  have j2 := h.add (c1 := cD) hp (by omega) (by omega) hl (fun _ _ _ _ _ _ => IOK.fall (by decide))
  refine ok_bind (q_add N p.2 63 1) (fun q hq => ok_some ?_)
  have j3 := j2.add (c1 := c1) hq (by omega) (by omega) (fun z => hl (hp.f32.1.symm.trans z)) (fun _ _ _ _ _ _ => IOK.stop (by decide))
  refine ⟨j3.w (by omega) (Int.le_refl _), fun z => ?_, hq.f32.2.1.trans hp.f32.2.1⟩
  have z1 := hq.f32.1.symm.trans z
  have z2 := hp.f32.1.symm.trans z1
  exact ((hp.sx z2).tr (hq.sx z1)).w (by omega) (by omega) (by omega)
theorem q_rowValues {N : Nat} {H : HB} (hN : 1000 ≤ N) {k : Int} {E1 : CS → Option (Unit × CS)} {E2 : CS → Option (Int32 × CS)} (hE : EC H k E1) {x y : Int} {c : List Nat} {X : List (Nat × List Nat)} {P : List Nat} {lim : List Int} {s : CS} (hx : x ≤ 3900) (hy : y + 3 * k ≤ 90 ∧ 0 ≤ k) (h : JJ H x y c X P lim s) (hk : s.i 32 = 0 → 23 - sgI s ≤ k) : ok (f_X7_rowValues N E1 E2 s) (fun R => JJ H (x - 40) y c X P lim R.2 ∧ (R.2.i 32 = 0 → SX 1 0 0 s R.2)) := by
  unfold f_X7_rowValues f_X0_newCells
  refine ok_bind (q_skip hN h.1 224) (fun p hp => ?_)
  rcases hp with ⟨p1, p2, p3⟩ | ⟨p1, p2, p3⟩
  · rw [if_pos p1, p2]
    refine ok_bind (q_expression (E2 := E2) hN hE _ _ c X P lim s (by omega) (by omega) h hk) (fun q hq => ?_)
    refine ok_imp (q_rv31 (x := x - 50) hN hE (by omega) (by omega) hk N q.2 1 0 (by decide) (by decide) (by rw [z_t0]; omega) hq.1 (fun z => (hq.2 z).sx)) (fun R hR => ⟨hR.1.w (by omega) (Int.le_refl _), hR.2⟩)
  · rw [p1, if_neg (by decide)]
    obtain ⟨j1, t1⟩ := h.tk p3 (fun _ => by rw [p2]; decide)
    refine ok_bind (q_throwNull (N := N) (c1 := c) (by omega) (by omega) j1.k (fun z => (j1.ds z).2)) (fun q hq => ?_)
    obtain ⟨j2, t2, -⟩ := hq
    have ir := (IRR.rf j2.1).i 23 (q.2.i 23 + 2) (by unfold IRJ; omega) (by omega)
    refine ok_bind (Q := fun w => w.2 = CS.setI q.2 23 (q.2.i 23 + 2)) (ok_some rfl) (fun w hw => ok_some ?_)
    show JJ H (x - 40) y c X P lim w.2 ∧ (w.2.i 32 = 0 → SX 1 0 0 s w.2)
    rw [hw]
    refine ⟨(JK.j (j2.irr ir)).w (by omega) (Int.le_refl _), fun z => ?_⟩
    have z1 := ir.f.1.symm.trans z
    exact (((t1 (t2 z1).1).sx.tr (t2 z1)).tr (ir.sx z1)).w (by omega) (by omega) (by omega)
theorem q_rowHead {N : Nat} {H : HB} (hN : 1000 ≤ N) {k : Int} {E1 : CS → Option (Unit × CS)} {E2 : CS → Option (Int32 × CS)} (hE : EC H k E1) {x y : Int} {c : List Nat} {X : List (Nat × List Nat)} {P : List Nat} {lim : List Int} {s0 s : CS} (hx : x ≤ 4000) (hy : y + 3 * k ≤ 87 ∧ 0 ≤ k) (h : JJ H x y c X P lim s) (h0 : S0G s0) (hk : 24 - sgI s0 ≤ k) (hs : s.i 32 = 0 → SX 3 3 1 s0 s) (ht : s.i 43 = 58) (x1 : Int64) : ok (f_X7_rowHead N E1 E2 s x1) (fun R => FHP H x (y + 2) c X P lim s0 R) := by
  unfold f_X7_rowHead
  refine ok_bind (q_newTarget N s) (fun p hp => ?_)
  obtain ⟨t1, t2⟩ := hp
  have j1 : JJ H x (y + 1) c _ _ lim p.2 := h.new t1 (by omega) (by omega) c
  have et : s.i 32 = 0 → p.1.toInt = ((tcI s).toNat : Int) := fun z => NTG.t h.k z t2
  have f1 := t1.f
  obtain ⟨t, ht'⟩ : ∃ t, t = (tcI s).toNat := ⟨_, rfl⟩
  rw [← ht'] at j1 et
  refine ok_bind (q_newTarget N p.2) (fun q hq => ?_)
  obtain ⟨u1, u2⟩ := hq
  have j2 : JJ H x (y + 1 + 1) c _ _ lim q.2 := j1.new u1 (by omega) (by omega) c
  have eu : s.i 32 = 0 → q.1.toInt = ((tcI p.2).toNat : Int) := fun z => NTG.t j1.k (f1.1.trans z) u2
  have f2 := u1.f
  obtain ⟨u, hu'⟩ : ∃ u, u = (tcI p.2).toNat := ⟨_, rfl⟩
  rw [← hu'] at j2 eu
  have mu : (u, c) ∈ (u, c) :: (t, c) :: X := List.mem_cons_self ..
  have mt : (t, c) ∈ (u, c) :: (t, c) :: X := List.mem_cons_of_mem _ (List.mem_cons_self ..)
  have hX : ∀ q ∈ X, q ∈ (u, c) :: (t, c) :: X := fun q hq => List.mem_cons_of_mem _ (List.mem_cons_of_mem _ hq)
  generalize hXX : (u, c) :: (t, c) :: X = X1 at *
  clear hXX
  refine ok_bind (q_advC hN j2.1) (fun r hr => ?_)
  obtain ⟨j3, e3⟩ := j2.tk hr (fun _ => by rw [f2.2.1, f1.2.1, ht]; decide)
  have x3 : r.2.i 32 = 0 → s.i 32 = 0 ∧ SX 3 3 1 s0 r.2 := fun z => by
    have z1 := f2.1.symm.trans (e3 z).1
    have z2 := f1.1.symm.trans z1
    exact ⟨z2, ((((hs z2).tr (t1.sx z2)).tr (u1.sx z1)).tr (e3 z).sx).w (by omega) (by omega) (by omega)⟩
  refine ok_bind (q_rowValues (E2 := E2) hN hE (by omega) (by omega) j3 (fun z => by have := (x3 z).2.2.2.1; omega)) (fun a ha => ?_)
  obtain ⟨j4, e4⟩ := ha
  have x4 : a.2.i 32 = 0 → s.i 32 = 0 ∧ SX 3 3 1 s0 a.2 := fun z => ⟨(x3 (e4 z).1).1, ((x3 (e4 z).1).2.tr (e4 z)).w (by omega) (by omega) (by omega)⟩
  refine ok_bind (q_clos hN j4 (fun z => ?_) 41 (by decide)) (fun b hb => ?_)
  · have sx := (x4 z).2
    have ecn : cnI a.2 = cnI s0 := by unfold cnI; rw [sx.2.2.2.1.2.1]
    obtain ⟨i1, i2, i3, i4, i5⟩ := sx.2.2.2.2.2.1.sums h0.2.1
    have := sx.2.2.1
    have := h0.2.2.2.2.1.2
    have := h0.2.2.2.2.2.2.2.2
    rw [ecn, i2]
    omega
  obtain ⟨j5, m5⟩ := hb
  have x5 : b.2.i 32 = 0 → s.i 32 = 0 ∧ SX 3 3 0 s0 b.2 := fun z => ⟨(x4 (m5 z).1).1, ((x4 (m5 z).1).2.tr (m5 z).sx).w (by omega) (by omega) (by omega)⟩
  refine ok_bind (q_aim N b.2 p.1) (fun d hd => ?_)
  have j6 : JJ H (x - 100 - 40 - 100) (y + 1 + 1) c X1 (u :: P) lim d.2 := j5.aimF hd (by omega) (by omega) (fun z => by
    have z1 := (x5 z).1
    refine ⟨⟨t, et z1, mt⟩, fun k hk => ?_⟩
    rcases List.mem_cons.mp hk with e | e
    · left; rw [e]; exact List.mem_cons_self ..
    · rcases List.mem_cons.mp e with e | e
      · right; rw [e]; exact (et z1).symm
      · left; exact List.mem_cons_of_mem _ e)
  have x6 : d.2.i 32 = 0 → s.i 32 = 0 ∧ SX 3 3 0 s0 d.2 := fun z => by
    have z1 := hd.f.1.symm.trans z
    exact ⟨(x5 z1).1, ((x5 z1).2.tr (hd.sx z1)).w (by omega) (by omega) (by omega)⟩
  refine ok_bind (q_add N d.2 37 a.1) (fun e he => ?_)
  have j7 := j6.add he (by omega) (by omega) (fun _ _ _ _ _ _ => IOK.fall (by decide))
  have x7 : e.2.i 32 = 0 → s.i 32 = 0 ∧ SX 3 3 0 s0 e.2 := fun z => by
    have z1 := he.f32.1.symm.trans z
    exact ⟨(x6 z1).1, ((x6 z1).2.tr (he.sx z1)).w (by omega) (by omega) (by omega)⟩
  refine ok_bind (q_add N e.2 31 q.1) (fun f hf => ?_)
  have j8 := j7.add hf (by omega) (by omega) (fun z DT KT qX _ _ => IOK.jmp (by decide) (eu (x7 z).1) mu qX)
  have x8 : f.2.i 32 = 0 → s.i 32 = 0 ∧ SX 3 3 0 s0 f.2 := fun z => by
    have z1 := hf.f32.1.symm.trans z
    exact ⟨(x7 z1).1, ((x7 z1).2.tr (hf.sx z1)).w (by omega) (by omega) (by omega)⟩
  refine ok_bind (q_add N f.2 51 0) (fun g hg => ?_)
  have j9 := j8.add hg (by omega) (by omega) (fun _ _ _ _ _ _ => IOK.fall (by decide))
  have x9 : g.2.i 32 = 0 → s.i 32 = 0 ∧ SX 3 3 0 s0 g.2 := fun z => by
    have z1 := hg.f32.1.symm.trans z
    exact ⟨(x8 z1).1, ((x8 z1).2.tr (hg.sx z1)).w (by omega) (by omega) (by omega)⟩
  refine ok_bind (q_add N g.2 38 a.1) (fun i hi => ?_)
  have k1 := j9.add hi (by omega) (by omega) (fun _ _ _ _ _ _ => IOK.fall (by decide))
  have y1 : i.2.i 32 = 0 → s.i 32 = 0 ∧ SX 3 3 0 s0 i.2 := fun z => by
    have z1 := hi.f32.1.symm.trans z
    exact ⟨(x9 z1).1, ((x9 z1).2.tr (hi.sx z1)).w (by omega) (by omega) (by omega)⟩
  refine ok_bind (q_tell (N := N) k1 x1) (fun l hl => ?_)
  obtain ⟨k2, y2'⟩ := hl
  have y2 : l.2.i 32 = 0 → s.i 32 = 0 ∧ SX 3 3 0 s0 l.2 := fun z => ⟨(y1 (y2' z).1).1, ((y1 (y2' z).1).2.tr (y2' z)).w (by omega) (by omega) (by omega)⟩
  refine ok_bind (q_add N l.2 2 l.1) (fun o ho => ?_)
  have k3 := k2.add ho (by omega) (by omega) (fun _ _ _ _ _ _ => IOK.fall (by decide))
  have y3 : o.2.i 32 = 0 → s.i 32 = 0 ∧ SX 3 3 0 s0 o.2 := fun z => by
    have z1 := ho.f32.1.symm.trans z
    exact ⟨(y2 z1).1, ((y2 z1).2.tr (ho.sx z1)).w (by omega) (by omega) (by omega)⟩
  refine ok_bind (q_pushLoop (N := N) k3.k (fun z => (y3 z).2) 304 p.1 q.1) (fun w hw => ?_)
  obtain ⟨v, b', m, r1, px, ⟨o0, o2, o3⟩, ⟨o9, o10⟩, ri, ra⟩ := hw
  rw [r1]
  show ok (some ((some b'), w.2)) _
  have nw : w.2.i 32 = 0 → s.i 32 = 0 := fun z => by
    rw [ri 32 (by decide) (by decide)] at z
    exact (y3 z).1
  refine ok_some ⟨v, b', m, X1, u :: P, rfl, px.w (by omega) (by omega), hX, Or.inr (Or.inr o0), o2, fun z => ⟨u, ?_⟩, fun z => ⟨t, ?_⟩, fun z k hk => ?_⟩
  · show (w.2.o b' 9).toInt = (u : Int) ∧ (u, c) ∈ X1
    rw [o9]; exact ⟨eu (nw z), mu⟩
  · show (w.2.o b' 10).toInt = (t : Int) ∧ (t, c) ∈ X1
    rw [o10]; exact ⟨et (nw z), mt⟩
  · show k ∈ P ∨ (w.2.o b' 9).toInt = (k : Int)
    rcases List.mem_cons.mp hk with e | e
    · right; rw [o9, e]; exact eu (nw z)
    · exact Or.inl e
end
section
/-! the class's reading: for, lock, switch -/
theorem JJ.y {H : HB} {x y y' : Int} {c : List Nat} {X : List (Nat × List Nat)} {P : List Nat} {lim : List Int} {s : CS} (h : JJ H x y c X P lim s) (hy : s.i 32 = 0 → tcI s ≤ eI s + y') : JJ H x y' c X P lim s := ⟨h.1, fun q => ⟨(h.2 q).1, hy q, (h.2 q).2.2⟩⟩
theorem q_for80 {N : Nat} {H : HB} (hN : 1000 ≤ N) {k : Int} {E1 : CS → Option (Unit × CS)} {E2 : CS → Option (Int32 × CS)} (hE : EC H k E1) (hE2 : EC2 H k E2) {x y : Int} {c : List Nat} {X : List (Nat × List Nat)} {P : List Nat} {lim : List Int} {s0 s : CS} (hx : x ≤ 4000) (hy : y + 3 * k ≤ 87 ∧ 0 ≤ k) (h : JJ H x (y - 3) c X P lim s) (h59 : s.i 43 = 59 → JJ H x (y - 4) c X P lim s) (h0 : S0G s0) (hk : 24 - sgI s0 ≤ k) (hs : s.i 32 = 0 → SX 3 3 1 s0 s) : ok (f_X7_beginFor_80 N E1 E2 s (s0.i 50)) (fun R => STQ H (x + 50) y X P lim s0 R.2) := by
  unfold f_X7_beginFor_80
  by_cases e : s.i 43 = 59
  · refine ok_bind (q_forHead hN hE hE2 hx (by omega) (h59 e) h0 hk hs) (fun R hR => ?_)
    exact ok_imp (FHP.end hR.1 h0) (fun T hT => hT.1.w (Int.le_refl _) (by omega))
  · refine ok_bind (q_forHead hN hE hE2 hx (by omega) h h0 hk hs) (fun R hR => ?_)
    have nR : ¬ R.2.i 32 = 0 := fun z => e (hR.2 z).2
    exact ok_imp (FHP.end hR.1 h0) (fun T hT => ⟨hT.1.1, fun z => absurd (hT.2.symm.trans z) nR⟩)
theorem q_beginFor {N : Nat} {H : HB} (hN : 1000 ≤ N) {k : Int} {E1 : CS → Option (Unit × CS)} {E2 : CS → Option (Int32 × CS)} (hE : EC H k E1) (hE2 : EC2 H k E2) {x y : Int} {c : List Nat} {X : List (Nat × List Nat)} {P : List Nat} {lim : List Int} {s : CS} (hx : x ≤ 4000) (hy : y + 3 * k ≤ 87 ∧ 0 ≤ k) (h : JJ H x y c X P lim s) (h0 : S0G s) (hk : 24 - sgI s ≤ k) (ht : s.i 43 = 207) : ok (f_X7_beginFor N E1 E2 s) (fun R => STQ H (x - 20) y X P lim s R.2) := by
  unfold f_X7_beginFor f_X7_beginFor_64
  have nf := h0.1
  refine ok_bind (q_advC hN h.1) (fun p hp => ?_)
  obtain ⟨j1, e1⟩ := h.word hp (fun _ => by rw [ht]; decide)
  have nf1 := hp.f32.trans nf
  refine ok_bind (q_open hN j1.1 40) (fun q hq => ?_)
  obtain ⟨j2, m2⟩ := j1.op (by decide) hq
  have x2 : q.2.i 32 = 0 → SX 3 3 1 s q.2 := fun z => ((e1 nf1).tr (m2 z).sx).w (by omega) (by omega) (by omega)
  refine ok_bind (q_skip hN j2.1 200) (fun r hr => ?_)
  rcases hr with ⟨r1, r2, r3⟩ | ⟨r1, r2, r3⟩
  · rw [if_pos r1, r2]
    refine ok_bind (q_found q.2 2) (fun u hu => ?_)
    obtain ⟨u1, u2⟩ := hu
    rw [u1]
    rcases u2 with ⟨u2, u3⟩ | ⟨u2, u3⟩
    · rw [if_pos u2]
      refine ok_imp (q_for80 hN hE hE2 (by omega) hy j2 (fun e59 => j2.y (fun z => ?_)) h0 hk x2) (fun T hT => hT.w (by omega) (Int.le_refl _))
      rcases hq with hf | ⟨o1, o2, o3⟩
      · exact absurd z hf.2.2.2.1
      · obtain ⟨g, n⟩ := j1.2 nf1
        have cY : LC (CS.setI p.2 34 (p.2.i 34 + 1)) := j1.1.2.2.1
        have gn := o3.gain cY
        have pY : plI (CS.setI p.2 34 (p.2.i 34 + 1)) = plI p.2 := by unfold plI; rw [ci_ne _ _ _ (by decide)]
        have n0 : ¬ (CS.setI p.2 34 (p.2.i 34 + 1)).i 43 = 0 := by rw [ci_ne _ _ _ (by decide), o1]; decide
        have g1 := gn.2.1 n0
        have eR : eI q.2 = plI q.2 + 1 := eI.sg (by unfold ALN; rw [e59]; decide)
        have eP : eI p.2 = plI p.2 + 1 := eI.sg (by unfold ALN; rw [o1]; decide)
        have tc : tcI q.2 = tcI p.2 := by unfold tcI; rw [o3.1.2 21 (by decide) (by decide) (by decide) (by decide), ci_ne _ _ _ (by decide)]
        have := n.1
        omega
    · rw [u2, if_neg (by decide)]
      refine ok_bind (q_chHere (E2 := E2) hN hE (by omega) (by omega) j2 (fun z => by have := (x2 z).2.2.1; omega) 0 u3) (fun v hv => ?_)
      exact ok_imp (q_for80 hN hE hE2 (by omega) hy (hv.1.w (Int.le_refl _) (by omega)) (fun _ => hv.1.w (Int.le_refl _) (by omega)) h0 hk (fun z => ((x2 (hv.2 z).1).tr (hv.2 z).sx).w (by omega) (by omega) (by omega))) (fun T hT => hT.w (by omega) (Int.le_refl _))
  · rw [r1, if_neg (by decide)]
    obtain ⟨j3, e3⟩ := j2.word r3 (fun _ => by rw [r2]; decide)
    refine ok_bind (q_newName hN j3) (fun u hu => ?_)
    obtain ⟨j4, e4⟩ := hu
    have x4 : u.2.i 32 = 0 → SX 3 3 1 s u.2 := fun z => (((x2 (e3 (e4 z).1).1).tr (e3 (e4 z).1)).tr (e4 z).sx).w (by omega) (by omega) (by omega)
    refine ok_bind (q_found u.2 58) (fun v hv => ?_)
    obtain ⟨v1, v2⟩ := hv
    rw [v1]
    rcases v2 with ⟨v2, v3⟩ | ⟨v2, v3⟩
    · rw [if_pos v2]
      refine ok_bind (q_define (E2 := E2) hN hE (by omega) (by omega) j4 (fun z => by have := (x4 z).2.2.1; omega) u.1) (fun w hw => ?_)
      obtain ⟨j5, e5⟩ := hw
      refine ok_bind (q_forHead hN hE hE2 (by omega) (by omega) j5 h0 hk (fun z => ((x4 (e5 z).1).tr (e5 z)).w (by omega) (by omega) (by omega))) (fun R hR => ?_)
      exact ok_imp (FHP.end hR.1 h0) (fun T hT => hT.1.w (by omega) (by omega))
    · rw [v2, if_neg (by decide)]
      refine ok_bind (q_rowHead (E2 := E2) hN hE (by omega) (by omega) j4 h0 hk x4 v3 u.1) (fun R hR => ?_)
      exact ok_imp (FHP.end hR h0) (fun T hT => hT.1.w (by omega) (by omega))
theorem AT2.cons {c : List Nat} {x : Int32} (p : Nat) (h : AT2 c x) : AT2 (p :: c) x := by
  obtain ⟨i, h1, h2, r, q, h3, h4⟩ := h
  exact ⟨i, h1, by show i < c.length + 1; omega, p :: r, q, by rw [h3]; rfl, h4⟩
theorem NMT.cons {c : List Nat} {x : Int32} (p : Nat) (h : NMT x c) : NMT x (p :: c) := by
  rcases h with h | h
  · exact Or.inl h
  · exact Or.inr (h.cons p)
/-- as PRX.end, but into a new context -/
theorem PRX.in {H : HB} {x y : Int} {c : List Nat} {X X' : List (Nat × List Nat)} {P P' : List Nat} {lim lim' : List Int} {v : Int32} {m a q : Nat} {s0 s T : CS} {p g κ : Int} (h : PRX H x y (q :: c) c c X P lim v m a s0 p g 1 s) (h0 : S0G s0) (hTT : T = CS.setI s 38 (s.i 38 + 1)) (h5 : ¬ s.o a 0 = 305) (hX : ∀ q ∈ X', q ∈ X) (hR : s.i 32 = 0 → ∀ (DT : Nat → List Nat) (KT : Nat → Prop), (∀ q ∈ X, (q.1 : Int) < tcI s ∧ DT q.1 = q.2 ∧ ¬ KT q.1) → (∀ n : Nat, (n : Int) < (s.o a 3).toInt → NMT (s.a 49 n) c) → ROW1 s DT KT a c (q :: c) lim' lim) (hP : s.i 32 = 0 → ∀ k ∈ P, k ∈ P' ∨ OWS s a k) (hi : s.i 32 = 0 → lmh lim' ≤ ccI s) (h30 : s.i 32 = 0 → nmI s0 ≤ (s.o a 3).toInt ∧ (s.o a 3).toInt ≤ nmI s) (hsg : sgn s a = 1) (hk : κ ≤ g) (hg0 : 0 ≤ g) (hp : 1 ≤ p) (hq : s.i 32 = 0 → ∀ V : CS, IQ V m → RSQ V T m → NR V m → IQ T (m + 1) ∧ WCS T (m + 1) ≤ WCS V m + κ) : STQ H (x + 50) y X' P' lim' s0 T := by
  have nfs : T.i 32 = s.i 32 := by rw [hTT]; exact ci_ne _ _ _ (by decide)
  have cT : CBS H T := by
    rw [hTT]
    obtain ⟨c1, c2, c3, c4, c5, c6, c7, c8, c9⟩ := h.1.1
    refine ⟨c1, c2, c3, c4, ?_, c6, c7, c8, ?_⟩
    · rw [ci_ne _ _ _ (by decide), ci_ne _ _ _ (by decide)]; exact c5
    · rw [ci_ne _ _ _ (by decide), ci_ne _ _ _ (by decide), ci_ne _ _ _ (by decide), ci_ne _ _ _ (by decide)]; exact c9
  refine ⟨cT, fun nfT => ?_⟩
  have nf := nfs.symm.trans nfT
  have ds := h.ds nf
  have nV : (CS.setI s 53 v).i 32 = 0 := (ci_ne _ _ _ (by decide)).trans nf
  have sx := h.2 nf
  have ngV := sx.ng h0.2.2.1 h0.2.1
  have len := h.1.2.2.2.len nV ngV
  have n := (h.1.2.2.2.2 nV).2
  have ecn : cnI (CS.setI s 53 v) = cnI s0 := by unfold cnI; rw [sx.2.2.2.1.2.1]
  have i2 := (sx.2.2.2.2.2.1.sums h0.2.1).2.1
  rw [ecn, i2] at len
  have l1 := h0.2.2.2.2.1.2
  have l2 := sx.2.2.1
  have l3 := n.2.2.2.1.2
  have lc : c.length ≤ 20 := by omega
  have e1 : (1 : Int32).toInt = 1 := by decide
  have hd : (((q :: c).length : Nat) : Int) = dsI T ∧ (q :: c).length ≤ 21 := by
    refine ⟨?_, by show c.length + 1 ≤ 21; omega⟩
    show ((c.length + 1 : Nat) : Int) = (T.i 38).toInt
    rw [hTT, ci_at, toInt_add] <;> rw [e1] <;> omega
  obtain ⟨j, r⟩ := h.row nf h0 (T := T) (by rw [hTT]; exact ⟨rfl, rfl, rfl, rfl⟩) (fun j _ j2 => by rw [hTT]; exact ci_ne _ _ _ j2) cT h5 (hR nf) (hP nf) (fun _ z => z.cons q) (hi nf) (h30 nf) hd hsg hk hg0 hp (hq nf)
  exact ⟨⟨q :: c, JK.j (j.sub hX)⟩, r⟩
end
