/-! the class's reading: what a statement leaves as it was -/
/-- from s to R: p bytes at least, g more in e, d more signs begun -/
def SX (p g d : Int) (s R : CS) : Prop := s.i 32 = 0 ∧ (plI s + p ≤ plI R ∧ eI s + g ≤ eI R) ∧ sgI R = sgI s + d ∧ (R.i 38 = s.i 38 ∧ R.i 53 = s.i 53 ∧ R.i 56 = s.i 56 ∧ R.i 22 = s.i 22) ∧ nmI s ≤ nmI R ∧ RSQ s R (cnI s).toNat ∧ (∀ n : Nat, (n : Int) < nmI s → R.a 49 n = s.a 49 n) ∧ (∀ i : Nat, (i : Int) < ccI s → R.a 18 i = s.a 18 i ∧ R.a 19 i = s.a 19 i)
theorem SX.rf {s : CS} (h : s.i 32 = 0) : SX 0 0 0 s s := ⟨h, by omega, by omega, ⟨rfl, rfl, rfl, rfl⟩, Int.le_refl _, RSQ.rf s _, fun _ _ => rfl, fun _ _ => ⟨rfl, rfl⟩⟩
theorem SX.tr {p g d p' g' d' : Int} {s R T : CS} (h : SX p g d s R) (k : SX p' g' d' R T) : SX (p + p') (g + g') (d + d') s T := by
  obtain ⟨a0, ⟨a1, a2⟩, a3, ⟨a4, a5, a6, a7⟩, a8, a9, a10, a11⟩ := h
  obtain ⟨b0, ⟨b1, b2⟩, b3, ⟨b4, b5, b6, b7⟩, b8, b9, b10, b11⟩ := k
  have ecn : cnI R = cnI s := by unfold cnI; rw [a5]
  have ecc : ccI R = ccI s := by unfold ccI; rw [a7]
  rw [ecn] at b9
  rw [ecc] at b11
  exact ⟨a0, ⟨by omega, by omega⟩, by omega, ⟨b4.trans a4, b5.trans a5, b6.trans a6, b7.trans a7⟩, by omega, a9.tr b9, fun n hn => (b10 n (by omega)).trans (a10 n hn), fun i hi => ⟨(b11 i hi).1.trans (a11 i hi).1, (b11 i hi).2.trans (a11 i hi).2⟩⟩
theorem SX.w {p g d p' g' d' : Int} {s R : CS} (h : SX p g d s R) (hp : p' ≤ p) (hg : g' ≤ g) (hd : d' = d) : SX p' g' d' s R := by
  obtain ⟨a0, ⟨a1, a2⟩, a3, a4⟩ := h
  exact ⟨a0, ⟨by omega, by omega⟩, by omega, a4⟩
theorem SMX.sx {p g d : Int} {s R : CS} (h : SMX s R) (nf : s.i 32 = 0) (hp : plI s + p ≤ plI R ∧ eI s + g ≤ eI R) (hd : sgI R = sgI s + d) : SX p g d s R := ⟨nf, hp, hd, ⟨h.1.1, h.1.2.2.1, h.1.2.2.2.1, h.1.2.2.2.2.1⟩, by unfold nmI; rw [h.1.2.1]; exact Int.le_refl _, h.2.1, h.2.2.1, h.2.2.2⟩
theorem SMR.sx {p g : Int} {s R : CS} (h : SMR s R) (nf : s.i 32 = 0) (hp : plI s + p ≤ plI R ∧ eI s + g ≤ eI R) : SX p g 0 s R := h.x.sx nf hp (by unfold sgI; rw [h.1.1]; omega)
theorem EXR.sx {s R : CS} (h : EXR s R) : SX 1 0 0 s R := h.2.2.sx h.1 ⟨h.2.1.1, by have := h.2.1.2; omega⟩
theorem MOV.sx {d : Int} {s R : CS} (h : MOV d s R) : SX 1 0 d s R := h.2.2.2.sx h.1 ⟨h.2.1.1, by have := h.2.1.2; omega⟩ h.2.2.1
theorem ADD.sx {s R : CS} {o x : Int32} (h : ADD s R o x) (nf : s.i 32 = 0) : SX 0 0 0 s R := h.smr.sx nf (by have := h.pl; omega)
theorem NTG.sx {s R : CS} (h : NTG s R) (nf : s.i 32 = 0) : SX 0 0 0 s R := h.smr.sx nf (by have := h.f; omega)
theorem AIM.sx {s R : CS} {t : Int32} (h : AIM s R t) (nf : s.i 32 = 0) : SX 0 0 0 s R := h.smr.sx nf (by have := h.f; omega)
/-- a word is taken -/
theorem ADV.wd {s R : CS} (h : ADV s R) (hl : LC s) (hw : 200 ≤ (s.i 43).toInt ∨ (3 ≤ (s.i 43).toInt ∧ (s.i 43).toInt ≤ 5)) : plI s + 2 ≤ plI R ∧ eI s + 3 ≤ eI R := by
  have gn := h.gain hl
  have g5 := gn.2.2.2.2.1 hw
  have e : eI s = plI s := eI.al (by unfold ALN; omega)
  omega
/-- any token is taken -/
theorem ADV.tk1 {s R : CS} (h : ADV s R) (hl : LC s) (h0 : ¬ s.i 43 = 0) : plI s + 1 ≤ plI R ∧ eI s ≤ eI R := (h.gain hl).2.1 h0
/-- fields that nothing here looks at -/
def IRJ (j : Nat) : Prop := (23 ≤ j ∧ j ≤ 27) ∨ j = 36 ∨ j = 37 ∨ j = 54 ∨ j = 55
def IRR (s R : CS) : Prop := (R.hs = s.hs ∧ R.L = s.L ∧ R.k = s.k ∧ R.o = s.o ∧ R.ol = s.ol ∧ R.ot = s.ot ∧ R.r = s.r ∧ R.w = s.w ∧ R.b = s.b ∧ R.l = s.l) ∧ (∀ j : Nat, ¬ IRJ j → R.i j = s.i j) ∧ (∀ k : Nat, k ≠ 52 → R.a k = s.a k) ∧ bo (R.i 36) ∧ bo (R.i 27)
theorem IRR.rf {H : HB} {s : CS} (h : CBS H s) : IRR s s := ⟨⟨rfl, rfl, rfl, rfl, rfl, rfl, rfl, rfl, rfl, rfl⟩, fun _ _ => rfl, fun _ _ => rfl, h.2.2.2.2.2.2.2.2.1, h.2.2.2.2.2.2.2.2.2.2⟩
theorem IRR.i {s R : CS} (h : IRR s R) (k : Nat) (v : Int32) (hk : IRJ k) (hb : k = 36 ∨ k = 27 → bo v) : IRR s (CS.setI R k v) := by
  obtain ⟨⟨a1, a2, a3, a4, a5, a6, a7, a8, a9, a10⟩, b, c, d, e⟩ := h
  have one : ∀ j : Nat, j = 36 ∨ j = 27 → bo (R.i j) → bo ((CS.setI R k v).i j) := fun j hj hv => by
    by_cases q : j = k
    · rw [q, ci_at]; exact hb (by rw [← q]; exact hj)
    · rw [ci_ne _ _ _ q]; exact hv
  exact ⟨⟨(chs_setI ..).trans a1, (cL_setI ..).trans a2, (ck_setI ..).trans a3, (co_setI ..).trans a4, (col_setI ..).trans a5, (cot_setI ..).trans a6, (cr_setI ..).trans a7, (cw_setI ..).trans a8, (cb_setI ..).trans a9, (cl_setI ..).trans a10⟩, fun j hj => (ci_ne _ _ _ (fun q => hj (by rw [q]; exact hk))).trans (b j hj), fun j hj => by rw [ca_setI]; exact c j hj, one 36 (Or.inl rfl) d, one 27 (Or.inr rfl) e⟩
theorem IRR.a {s R : CS} (h : IRR s R) (f : Nat → Int32) : IRR s (CS.putA R 52 f) := by
  obtain ⟨⟨a1, a2, a3, a4, a5, a6, a7, a8, a9, a10⟩, b, c, d, e⟩ := h
  exact ⟨⟨(chs_putA ..).trans a1, (cL_putA ..).trans a2, (ck_putA ..).trans a3, (co_putA ..).trans a4, (col_putA ..).trans a5, (cot_putA ..).trans a6, (cr_putA ..).trans a7, (cw_putA ..).trans a8, (cb_putA ..).trans a9, (cl_putA ..).trans a10⟩, fun j hj => by rw [ci_putA]; exact b j hj, fun j hj => (ca_ne _ _ _ hj).trans (c j hj), by rw [ci_putA]; exact d, by rw [ci_putA]; exact e⟩
theorem NB.eq {x y : Int} {d : List Nat} {s R : CS} (hn : NB x y d s) (hi : ∀ j : Nat, ¬ IRJ j → R.i j = s.i j) (hr : R.r = s.r) (ho : R.o = s.o) (hl : R.ol = s.ol) (nr : NR s (cnI s).toNat) : NB x y d R := by
  have n : ∀ j : Nat, j = 20 ∨ j = 21 ∨ j = 22 ∨ j = 34 ∨ j = 38 ∨ j = 43 ∨ j = 44 ∨ j = 53 ∨ j = 56 → R.i j = s.i j := fun j hj => hi j (by unfold IRJ; omega)
  have rq : RSQ s R (cnI s).toNat := fun i _ => ⟨by rw [hr], fun a _ => ⟨by rw [ho], by rw [hl]⟩⟩
  obtain ⟨i1, i2, i3, i4, i5⟩ := rq.sums nr
  have ecn : cnI R = cnI s := by unfold cnI; rw [n 53 (by omega)]
  have epl : plI R = plI s := by unfold plI; rw [n 44 (by omega)]
  have ee : eI R = eI s := by unfold eI; rw [epl, n 43 (by omega)]
  have etc : tcI R = tcI s := by unfold tcI; rw [n 21 (by omega)]
  have ecc : ccI R = ccI s := by unfold ccI; rw [n 22 (by omega)]
  have esz : szI R = szI s := by unfold szI; rw [n 20 (by omega)]
  have esg : sgI R = sgI s := by unfold sgI; rw [n 34 (by omega)]
  have eds : dsI R = dsI s := by unfold dsI; rw [n 38 (by omega)]
  obtain ⟨c1, c2, c3, c4, c5, c6, c7, c8, c9⟩ := hn
  exact ⟨by omega, by omega, by omega, by omega, by rw [ecn]; exact c5.of rq nr, by rw [ecn, i1, ee]; exact c6, by rw [ecn, i2, esg]; exact c7, by rw [eds]; exact c8, by rw [n 56 (by omega), ecn, hr, ho]; exact c9⟩
theorem IRR.cb {H : HB} {s R : CS} (h : IRR s R) (hc : CBS H s) : CBS H R := by
  obtain ⟨⟨a1, a2, a3, a4, a5, a6, a7, a8, a9, a10⟩, b, c, d, e⟩ := h
  have n : ∀ j : Nat, j = 13 ∨ j = 14 ∨ j = 32 ∨ (41 ≤ j ∧ j ≤ 45) ∨ j = 50 ∨ j = 53 → R.i j = s.i j := fun j hj => b j (by unfold IRJ; omega)
  obtain ⟨c1, c2, c3, c4, c5, c6, c7, c8, c9⟩ := hc
  have enm : nmI R = nmI s := by unfold nmI; rw [n 50 (by omega)]
  have ecn : cnI R = cnI s := by unfold cnI; rw [n 53 (by omega)]
  refine ⟨?_, ?_, ?_, ?_, ?_, by rw [enm]; exact c6, ?_, ?_, ⟨d, ?_, e⟩⟩
  · unfold REFS inP oK at *; rw [a1, a2, a3, a6, a7, a8]; exact c1
  · have etc : tcI R = tcI s := by unfold tcI; rw [b 21 (by unfold IRJ; omega)]
    refine ⟨by have := c2.1; unfold ROOM at *; rw [a1, a7]; exact this, by rw [a7]; exact c2.2.1, fun q => by rw [etc, c 17 (by decide)]; exact c2.2.2 ((n 32 (by omega)).symm.trans q)⟩
  · unfold LC AB BY at *
    rw [c 0 (by decide), n 41 (by omega), n 42 (by omega), n 43 (by omega), n 44 (by omega), n 45 (by omega), a10]
    exact c3
  · unfold WDC at *; rw [a9]; exact c4
  · rw [n 32 (by omega), n 43 (by omega)]; exact c5
  · unfold NR at *; rw [ecn, a7]; exact c7
  · rw [a7, a4]; exact c8
  · rw [n 14 (by omega), n 13 (by omega)]; exact c9.2.1
theorem IRR.ck {s R : CS} (h : IRR s R) : CK s R := by
  obtain ⟨⟨a1, a2, a3, a4, a5, a6, a7, a8, a9, a10⟩, b, c, d, e⟩ := h
  have n : ∀ j : Nat, j = 20 ∨ j = 21 ∨ j = 22 ∨ j = 50 ∨ j = 53 → R.i j = s.i j := fun j hj => b j (by unfold IRJ; omega)
  exact ⟨⟨⟨c 15 (by decide), c 16 (by decide), c 17 (by decide), c 19 (by decide), c 49 (by decide)⟩, ⟨n 20 (by omega), n 21 (by omega), n 50 (by omega), n 53 (by omega)⟩, by rw [a7], fun a _ => ⟨by rw [a4], by rw [a5]⟩⟩, n 22 (by omega)⟩
theorem IRR.f {s R : CS} (h : IRR s R) : R.i 32 = s.i 32 ∧ R.i 43 = s.i 43 ∧ plI R = plI s ∧ eI R = eI s := by
  have e : plI R = plI s := by unfold plI; rw [h.2.1 44 (by unfold IRJ; omega)]
  have e2 : R.i 43 = s.i 43 := h.2.1 43 (by unfold IRJ; omega)
  exact ⟨h.2.1 32 (by unfold IRJ; omega), e2, e, by unfold eI; rw [e, e2]⟩
theorem IRR.sx {s R : CS} (h : IRR s R) (nf : s.i 32 = 0) : SX 0 0 0 s R := by
  have f := h.f
  obtain ⟨⟨a1, a2, a3, a4, a5, a6, a7, a8, a9, a10⟩, b, c, d, e⟩ := h
  have n : ∀ j : Nat, j = 22 ∨ j = 34 ∨ j = 38 ∨ j = 50 ∨ j = 53 ∨ j = 56 → R.i j = s.i j := fun j hj => b j (by unfold IRJ; omega)
  exact ⟨nf, by omega, by unfold sgI; rw [n 34 (by omega)]; omega, ⟨n 38 (by omega), n 53 (by omega), n 56 (by omega), n 22 (by omega)⟩, by unfold nmI; rw [n 50 (by omega)]; exact Int.le_refl _, fun i _ => ⟨by rw [a7], fun a _ => ⟨by rw [a4], by rw [a5]⟩⟩, fun _ _ => by rw [c 49 (by decide)], fun _ _ => by rw [c 18 (by decide), c 19 (by decide)]; exact ⟨rfl, rfl⟩⟩
theorem JK.irr {H : HB} {x y : Int} {cD c d : List Nat} {X : List (Nat × List Nat)} {P : List Nat} {lim : List Int} {s R : CS} (h : JK H x y cD c d X P lim s) (hi : IRR s R) : JK H x y cD c d X P lim R := ⟨hi.cb h.1, fun q => by
  obtain ⟨g, n⟩ := h.2 (hi.f.1.symm.trans q)
  exact ⟨g.ck h.1.1 hi.ck, n.eq hi.2.1 hi.1.2.2.2.2.2.2.1 hi.1.2.2.2.1 hi.1.2.2.2.2.1 h.1.2.2.2.2.2.2.1.2.2⟩⟩
theorem JJ.irr {H : HB} {x y : Int} {c : List Nat} {X : List (Nat × List Nat)} {P : List Nat} {lim : List Int} {s R : CS} (h : JJ H x y c X P lim s) (hi : IRR s R) : JJ H x y c X P lim R := JK.j (h.k.irr hi)
/-- a name more -/
def NAD (s R : CS) (v : Int32) : Prop := (R.hs = s.hs ∧ R.L = s.L ∧ R.k = s.k ∧ R.o = s.o ∧ R.ol = s.ol ∧ R.ot = s.ot ∧ R.r = s.r ∧ R.w = s.w ∧ R.b 40 = s.b 40 ∧ R.l = s.l) ∧ (∀ j : Nat, j ≠ 50 → R.i j = s.i j) ∧ (∀ k : Nat, k ≠ 48 → k ≠ 49 → R.a k = s.a k) ∧ (nmI s ≤ nmI R ∧ nmI R ≤ nmI s + 1 ∧ nmI R ≤ 128) ∧ (∀ n : Nat, (n : Int) < nmI s → R.a 49 n = s.a 49 n) ∧ (∀ n : Nat, nmI s ≤ (n : Int) → (n : Int) < nmI R → R.a 49 n = v)
theorem q_nad {N : Nat} {s : CS} (h : 0 ≤ nmI s ∧ nmI s ≤ 128) (x1 : Int64) (x3 x4 : Int32) : ok (f_X4_add N s x1 x3 x4) (fun R => NAD s R.2 x4) := by
  unfold f_X4_add
  have e1 : (1 : Int32).toInt = 1 := by decide
  have e128 : (128 : Int32).toInt = 128 := by decide
  refine ok_ite (fun _ => ok_some ⟨⟨rfl, rfl, rfl, rfl, rfl, rfl, rfl, rfl, rfl, rfl⟩, fun _ _ => rfl, fun _ _ _ => rfl, ⟨Int.le_refl _, by show nmI s ≤ nmI s + 1; omega, h.2⟩, fun _ _ => rfl, fun n a b => by have b : (n : Int) < nmI s := b; omega⟩) (fun c => ?_)
  have l := lt_int (Int32.not_le.mp c)
  rw [e128] at l
  have h' : 0 ≤ (s.i 50).toInt ∧ (s.i 50).toInt ≤ 128 := h
  have cl := clampI h'.1
  refine ok_chk ⟨h'.1, by omega⟩ (ok_some ?_)
  obtain ⟨m, hm⟩ : ∃ m, m = (s.i 50).toNatClampNeg := ⟨_, rfl⟩
  rw [← hm] at cl ⊢
  obtain ⟨U, hU⟩ : ∃ U, U = CS.setA (CS.setB s 47 m x1) 48 m x3 := ⟨_, rfl⟩
  have u : (U.hs = s.hs ∧ U.L = s.L ∧ U.k = s.k ∧ U.o = s.o ∧ U.ol = s.ol ∧ U.ot = s.ot ∧ U.r = s.r ∧ U.w = s.w ∧ U.b 40 = s.b 40 ∧ U.l = s.l) ∧ U.i = s.i ∧ (∀ k : Nat, k ≠ 48 → U.a k = s.a k) := by
    rw [hU]
    exact ⟨⟨rfl, rfl, rfl, rfl, rfl, rfl, rfl, rfl, (show va_up s.b 47 (vp_updL (s.b 47) m x1) 40 = s.b 40 from if_neg (by decide)), rfl⟩, rfl, fun k hk => if_neg hk⟩
  rw [← hU]
  clear hU
  obtain ⟨⟨u1, u2, u3, u4, u5, u6, u7, u8, u9, u10⟩, u11, u12⟩ := u
  have en : nmI (CS.setI (CS.setA U 49 m x4) 50 (s.i 50 + 1)) = nmI s + 1 := by
    unfold nmI
    rw [ci_at, toInt_add] <;> rw [e1] <;> omega
  refine ⟨⟨u1, u2, u3, u4, u5, u6, u7, u8, u9, u10⟩, fun j hj => ?_, fun k k1 k2 => ?_, ⟨by show nmI s ≤ nmI (CS.setI (CS.setA U 49 m x4) 50 (s.i 50 + 1)); omega, by show nmI (CS.setI (CS.setA U 49 m x4) 50 (s.i 50 + 1)) ≤ _; omega, by show nmI (CS.setI (CS.setA U 49 m x4) 50 (s.i 50 + 1)) ≤ 128; unfold nmI at *; omega⟩, fun n hn => ?_, fun n hn hn2 => ?_⟩
  · show (CS.setI (CS.setA U 49 m x4) 50 (s.i 50 + 1)).i j = s.i j
    rw [ci_ne _ _ _ hj, ci_setA, u11]
  · exact (show (CS.setI (CS.setA U 49 m x4) 50 (s.i 50 + 1)).a k = U.a k from if_neg k2).trans (u12 k k1)
  · have hn' : (n : Int) < (s.i 50).toInt := hn
    have e : (CS.setI (CS.setA U 49 m x4) 50 (s.i 50 + 1)).a 49 = upd (U.a 49) m x4 := (show va_up U.a 49 (upd (U.a 49) m x4) 49 = _ from if_pos rfl)
    show (CS.setI (CS.setA U 49 m x4) 50 (s.i 50 + 1)).a 49 n = s.a 49 n
    rw [e, u12 49 (by decide)]
    exact if_neg (by omega)
  · have hn' : (s.i 50).toInt ≤ (n : Int) := hn
    have hn3 : (n : Int) < nmI (CS.setI (CS.setA U 49 m x4) 50 (s.i 50 + 1)) := hn2
    rw [en] at hn3
    have hn4 : (n : Int) < (s.i 50).toInt + 1 := hn3
    have e : (CS.setI (CS.setA U 49 m x4) 50 (s.i 50 + 1)).a 49 = upd (U.a 49) m x4 := (show va_up U.a 49 (upd (U.a 49) m x4) 49 = _ from if_pos rfl)
    show (CS.setI (CS.setA U 49 m x4) 50 (s.i 50 + 1)).a 49 n = x4
    rw [e]
    exact if_pos (by omega)
theorem NAD.cb {H : HB} {s R : CS} {v : Int32} (h : NAD s R v) (hc : CBS H s) : CBS H R := by
  obtain ⟨⟨a1, a2, a3, a4, a5, a6, a7, a8, a9, a10⟩, b, c, d, e, e2⟩ := h
  obtain ⟨c1, c2, c3, c4, c5, c6, c7, c8, c9⟩ := hc
  have ecn : cnI R = cnI s := by unfold cnI; rw [b 53 (by decide)]
  refine ⟨?_, ?_, ?_, ?_, ?_, by omega, ?_, ?_, ?_⟩
  · unfold REFS inP oK at *; rw [a1, a2, a3, a6, a7, a8]; exact c1
  · have etc : tcI R = tcI s := by unfold tcI; rw [b 21 (by decide)]
    refine ⟨by have := c2.1; unfold ROOM at *; rw [a1, a7]; exact this, by rw [a7]; exact c2.2.1, fun q => by rw [etc, c 17 (by decide) (by decide)]; exact c2.2.2 ((b 32 (by decide)).symm.trans q)⟩
  · unfold LC AB BY at *
    rw [c 0 (by decide) (by decide), b 41 (by decide), b 42 (by decide), b 43 (by decide), b 44 (by decide), b 45 (by decide), a10]
    exact c3
  · unfold WDC at *; rw [a9]; exact c4
  · rw [b 32 (by decide), b 43 (by decide)]; exact c5
  · unfold NR at *; rw [ecn, a7]; exact c7
  · rw [a7, a4]; exact c8
  · rw [b 36 (by decide), b 14 (by decide), b 13 (by decide), b 27 (by decide)]; exact c9
theorem NAD.f {s R : CS} {v : Int32} (h : NAD s R v) : R.i 32 = s.i 32 ∧ R.i 43 = s.i 43 ∧ plI R = plI s ∧ eI R = eI s := by
  have e : plI R = plI s := by unfold plI; rw [h.2.1 44 (by decide)]
  have e2 : R.i 43 = s.i 43 := h.2.1 43 (by decide)
  exact ⟨h.2.1 32 (by decide), e2, e, by unfold eI; rw [e, e2]⟩
theorem NAD.sx {s R : CS} {v : Int32} (h : NAD s R v) (nf : s.i 32 = 0) : SX 0 0 0 s R := by
  have f := h.f
  obtain ⟨⟨a1, a2, a3, a4, a5, a6, a7, a8, a9, a10⟩, b, c, d, e, e2⟩ := h
  exact ⟨nf, by omega, by unfold sgI; rw [b 34 (by decide)]; omega, ⟨b 38 (by decide), b 53 (by decide), b 56 (by decide), b 22 (by decide)⟩, d.1, fun i _ => ⟨by rw [a7], fun a _ => ⟨by rw [a4], by rw [a5]⟩⟩, e, fun _ _ => by rw [c 18 (by decide) (by decide), c 19 (by decide) (by decide)]; exact ⟨rfl, rfl⟩⟩
theorem JK.nad {H : HB} {x y : Int} {cD c d : List Nat} {X : List (Nat × List Nat)} {P : List Nat} {lim : List Int} {s R : CS} {v : Int32} (h : JK H x y cD c d X P lim s) (hn : NAD s R v) (hv : s.i 32 = 0 → NMT v c) : JK H x y cD c d X P lim R := by
  refine ⟨hn.cb h.1, fun q => ?_⟩
  have q' := hn.f.1.symm.trans q
  obtain ⟨g, n⟩ := h.2 q'
  have hv := hv q'
  have nr := h.1.2.2.2.2.2.2.1.2.2
  have ff := hn.f
  obtain ⟨⟨a1, a2, a3, a4, a5, a6, a7, a8, a9, a10⟩, b, c, d, e, e2⟩ := hn
  have rq : ∀ m : Nat, RSQ s R m := fun m i _ => ⟨by rw [a7], fun a _ => ⟨by rw [a4], by rw [a5]⟩⟩
  have ecn : cnI R = cnI s := by unfold cnI; rw [b 53 (by decide)]
  have etc : tcI R = tcI s := by unfold tcI; rw [b 21 (by decide)]
  have ecc : ccI R = ccI s := by unfold ccI; rw [b 22 (by decide)]
  have esz : szI R = szI s := by unfold szI; rw [b 20 (by decide)]
  have esg : sgI R = sgI s := by unfold sgI; rw [b 34 (by decide)]
  have eds : dsI R = dsI s := by unfold dsI; rw [b 38 (by decide)]
  refine ⟨?_, ?_⟩
  · obtain ⟨D, DT, KT, h1, h2, h3, h4, h5, ⟨m, m1, m2, m3⟩, h7, h8, h9, h10⟩ := g
    refine ⟨D, DT, KT, ?_, ?_, fun t q1 q2 q3 => ?_, by rw [esz]; exact h4, by rw [etc]; exact h5, ⟨m, by rw [ecn]; exact m1, m2, ?_⟩, fun k hk => ?_, by rw [etc]; exact h8, by rw [ecc]; exact h9, fun i a hi ea => ?_⟩
    · unfold CDT at *; rw [c 15 (by decide) (by decide), c 16 (by decide) (by decide), etc, esz]; exact h1
    · unfold TGS at *; rw [c 17 (by decide) (by decide), etc, esz]; exact h2
    · rw [etc] at q1
      rw [c 17 (by decide) (by decide)] at q3
      rcases h3 t q1 q2 q3 with z | z
      · exact Or.inl z
      · exact Or.inr (z.of (by omega) (fun i a _ e => ⟨by rw [a7]; exact e, by rw [a4]⟩))
    · refine m3.mono (by omega) (fun _ _ => ⟨rfl, Iff.rfl⟩) (fun t _ q => by rw [c 17 (by decide) (by decide)]; exact q) (rq m) (fun k _ => by rw [c 19 (by decide) (by decide)]) (fun i a hi ea k hk => ?_) m3.nr
      have z := (h10 i a (by omega) ea).1
      exact e k (by omega)
    · by_cases z : (k : Int) < nmI s
      · rw [e k z]; exact h7 k z
      · rw [e2 k (by omega) hk]; exact hv
    · rw [a7] at ea
      rw [ecn] at hi
      have z := h10 i a hi ea
      rw [a4]
      refine ⟨by have := z.1; omega, fun j b' y1 y2 y3 => ?_⟩
      rw [a7] at y3
      rw [ecn] at y2
      exact z.2 j b' y1 y2 y3
  · obtain ⟨i1, i2, i3, i4, i5⟩ := (rq (cnI s).toNat).sums nr
    obtain ⟨c1, c2, c3, c4, c5, c6, c7, c8, c9⟩ := n
    exact ⟨by omega, by omega, by omega, by omega, by rw [ecn]; exact c5.of (rq _) nr, by rw [ecn, i1, ff.2.2.2]; exact c6, by rw [ecn, i2, esg]; exact c7, by rw [eds]; exact c8, by rw [b 56 (by decide), ecn, a7, a4]; exact c9⟩
