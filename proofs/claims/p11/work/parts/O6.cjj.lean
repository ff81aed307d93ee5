/-! the class's reading: what always stands, and the tokens in it -/
def bo (v : Int32) : Prop := v = 0 ∨ v = 1
/-- the room, and the rows that are made and stay -/
abbrev HB : Type := Nat × (Nat → Option Nat) × (Nat → Prop)
def ROOMB (H : HB) (s : CS) : Prop := ROOM H.1 s ∧ (∀ i a : Nat, H.2.1 i = some a → s.r 51 i = some a) ∧ (s.i 32 = 0 → ∀ t : Nat, H.2.2 t → (t : Int) < tcI s ∧ 0 ≤ (s.a 17 t).toInt)
/-- what stands with a fault and without -/
def CBS (H : HB) (s : CS) : Prop := REFS s ∧ ROOMB H s ∧ LC s ∧ WDC s ∧ (¬ s.i 32 = 0 → s.i 43 = 0) ∧ (0 ≤ nmI s ∧ nmI s ≤ 128) ∧ (0 ≤ cnI s ∧ cnI s ≤ 400 ∧ NR s (cnI s).toNat) ∧ (∀ i a : Nat, i < 400 → s.r 51 i = some a → (bo (s.o a 5) ∧ bo (s.o a 6) ∧ bo (s.o a 7) ∧ bo (s.o a 8)) ∧ (0 ≤ (s.o a 3).toInt ∧ (s.o a 3).toInt ≤ 128)) ∧ (bo (s.i 36) ∧ (bo (s.i 14) ∧ (s.i 13).toInt ≤ 12) ∧ bo (s.i 27))
/-- the numbers while there is no fault: a instructions and b targets are not paid yet -/
def NB (a b : Int) (c : List Nat) (s : CS) : Prop := tcI s ≤ eI s + b ∧ (0 ≤ ccI s ∧ 3 * ccI s ≤ plI s) ∧ szI s + 50 * cnI s + 4 * ccI s ≤ 100 * plI s + 100 + a ∧ (0 ≤ sgI s ∧ sgI s ≤ 20) ∧ IQ s (cnI s).toNat ∧ WCS s (cnI s).toNat ≤ eI s ∧ SGS s (cnI s).toNat ≤ sgI s ∧ ((c.length : Int) = dsI s ∧ c.length ≤ 21) ∧ (-1 ≤ (s.i 56).toInt ∧ (s.i 56).toInt < cnI s ∧ ∀ a : Nat, 0 ≤ (s.i 56).toInt → s.r 51 (s.i 56).toInt.toNat = some a → s.o a 0 = 302)
def JJ (H : HB) (a b : Int) (c : List Nat) (X : List (Nat × List Nat)) (P : List Nat) (lim : List Int) (s : CS) : Prop := CBS H s ∧ (s.i 32 = 0 → GW c c X P lim s ∧ NB a b c s)
/-- only tokens, signs and what the typing does not look at change -/
def TS9 (s R : CS) : Prop := (R.hs = s.hs ∧ R.L = s.L ∧ R.k = s.k ∧ R.o = s.o ∧ R.ol = s.ol ∧ R.ot = s.ot ∧ R.r = s.r ∧ R.w = s.w ∧ R.b = s.b ∧ R.a = s.a) ∧ (∀ j : Nat, ¬ (32 ≤ j ∧ j ≤ 34) → ¬ (42 ≤ j ∧ j ≤ 45) → R.i j = s.i j)
theorem TS9.rf (s : CS) : TS9 s s := ⟨⟨rfl, rfl, rfl, rfl, rfl, rfl, rfl, rfl, rfl, rfl⟩, fun _ _ _ => rfl⟩
theorem TS9.tr {s R T : CS} (h : TS9 s R) (g : TS9 R T) : TS9 s T := by
  obtain ⟨⟨a1, a2, a3, a4, a5, a6, a7, a8, a9, a10⟩, b⟩ := h
  obtain ⟨⟨c1, c2, c3, c4, c5, c6, c7, c8, c9, c10⟩, d⟩ := g
  exact ⟨⟨c1.trans a1, c2.trans a2, c3.trans a3, c4.trans a4, c5.trans a5, c6.trans a6, c7.trans a7, c8.trans a8, c9.trans a9, c10.trans a10⟩, fun j q1 q2 => (d j q1 q2).trans (b j q1 q2)⟩
theorem TKC.t9 {s R : CS} (h : TKC s R) : TS9 s R := ⟨⟨h.1.1, h.1.2.1, h.1.2.2.1, h.1.2.2.2.1, h.1.2.2.2.2.1, h.1.2.2.2.2.2.1, h.1.2.2.2.2.2.2.2.1, h.1.2.2.2.2.2.2.2.2.1, h.1.2.2.2.2.2.2.2.2.2.1, h.1.2.2.2.2.2.2.2.2.2.2⟩, fun j _ q => h.2 j (by omega) (by omega) (by omega) (by omega)⟩
theorem FLD.t9 {s R : CS} (h : FLD s R) : TS9 s R := ⟨⟨h.1.1, h.1.2.1, h.1.2.2.1, h.1.2.2.2.1, h.1.2.2.2.2.1, h.1.2.2.2.2.2.1, h.1.2.2.2.2.2.2.2.1, h.1.2.2.2.2.2.2.2.2.1, h.1.2.2.2.2.2.2.2.2.2.1, h.1.2.2.2.2.2.2.2.2.2.2.1⟩, fun j q1 q2 => h.2.1 j (by omega) (by omega) (by omega) (by omega)⟩
theorem TS9.i34 {s R : CS} (h : TS9 s R) (v : Int32) : TS9 s (CS.setI R 34 v) := ⟨h.1, fun j q1 q2 => (if_neg (by omega)).trans (h.2 j q1 q2)⟩
theorem TS9.ck {s R : CS} (h : TS9 s R) : CK s R := by
  obtain ⟨⟨a1, a2, a3, a4, a5, a6, a7, a8, a9, a10⟩, b⟩ := h
  exact ⟨⟨⟨by rw [a10], by rw [a10], by rw [a10], by rw [a10], by rw [a10]⟩, ⟨b 20 (by omega) (by omega), b 21 (by omega) (by omega), b 50 (by omega) (by omega), b 53 (by omega) (by omega)⟩, by rw [a7], fun a _ => ⟨by rw [a4], by rw [a5]⟩⟩, b 22 (by omega) (by omega)⟩
theorem TS9.cb {H : HB} {s R : CS} (h : TS9 s R) (hc : CBS H s) (hl : LC R) (hf : ¬ R.i 32 = 0 → R.i 43 = 0) (h32 : R.i 32 = 0 → s.i 32 = 0) : CBS H R := by
  obtain ⟨c1, c2, c3, c4, c5, c6, c7, c8, c9⟩ := hc
  obtain ⟨⟨a1, a2, a3, a4, a5, a6, a7, a8, a9, a10⟩, b⟩ := h
  have enm : nmI R = nmI s := by unfold nmI; rw [b 50 (by omega) (by omega)]
  have ecn : cnI R = cnI s := by unfold cnI; rw [b 53 (by omega) (by omega)]
  refine ⟨?_, ?_, hl, ?_, hf, by rw [enm]; exact c6, ?_, ?_, ?_⟩
  · unfold REFS inP oK at *; rw [a1, a2, a3, a6, a7, a8]; exact c1
  · have etc : tcI R = tcI s := by unfold tcI; rw [b 21 (by omega) (by omega)]
    refine ⟨by have := c2.1; unfold ROOM at *; rw [a1, a7]; exact this, by rw [a7]; exact c2.2.1, fun q => by rw [etc, a10]; exact c2.2.2 (h32 q)⟩
  · unfold WDC at *; rw [a9]; exact c4
  · unfold NR at *; rw [ecn, a7]; exact c7
  · rw [a7, a4]; exact c8
  · rw [b 36 (by omega) (by omega), b 14 (by omega) (by omega), b 13 (by omega) (by omega), b 27 (by omega) (by omega)]; exact c9
theorem TS9.nb {x y x' y' : Int} {c : List Nat} {s R : CS} (h : TS9 s R) (hn : NB x y c s) (hr : REFS s) (n0 : 0 ≤ cnI s ∧ cnI s ≤ 400) (nr : NR s (cnI s).toNat) (he : eI s ≤ eI R) (hp : plI s ≤ plI R) (hx : x + 100 * plI s ≤ x' + 100 * plI R) (hy : y + eI s ≤ y' + eI R) (hs : SGS s (cnI s).toNat ≤ sgI R ∧ 0 ≤ sgI R ∧ sgI R ≤ 20) : NB x' y' c R := by
  have rq := h.ck.rsq hr (n := (cnI s).toNat) (by omega)
  obtain ⟨i1, i2, i3, i4, i5⟩ := rq.sums nr
  obtain ⟨c1, c2, c3, c4, c5, c6, c7, c8, c9⟩ := hn
  obtain ⟨⟨a1, a2, a3, a4, a5, a6, a7, a8, a9, a10⟩, b⟩ := h
  have etc : tcI R = tcI s := by unfold tcI; rw [b 21 (by omega) (by omega)]
  have ecc : ccI R = ccI s := by unfold ccI; rw [b 22 (by omega) (by omega)]
  have esz : szI R = szI s := by unfold szI; rw [b 20 (by omega) (by omega)]
  have ecn : cnI R = cnI s := by unfold cnI; rw [b 53 (by omega) (by omega)]
  have eds : dsI R = dsI s := by unfold dsI; rw [b 38 (by omega) (by omega)]
  have e56 : R.i 56 = s.i 56 := b 56 (by omega) (by omega)
  refine ⟨by omega, by omega, by omega, ⟨hs.2.1, hs.2.2⟩, ?_, ?_, ?_, by rw [eds]; exact c8, ?_⟩
  · rw [ecn]; exact c5.of rq nr
  · rw [ecn, i1]; omega
  · rw [ecn, i2]; exact hs.1
  · rw [e56, ecn, a7, a4]; exact c9
/-- a token on, all else as it was -/
theorem JJ.adv {H : HB} {x y x' y' : Int} {c : List Nat} {X : List (Nat × List Nat)} {P : List Nat} {lim : List Int} {s R : CS} (h : JJ H x y c X P lim s) (ha : ADV s R) (hxy : s.i 32 = 0 → x + 100 * plI s ≤ x' + 100 * plI R ∧ y + eI s ≤ y' + eI R) : JJ H x' y' c X P lim R := by
  obtain ⟨h1, h2⟩ := h
  have t9 := ha.1.t9
  have e32 : R.i 32 = s.i 32 := ha.1.2 32 (by decide) (by decide) (by decide) (by decide)
  have cb := t9.cb h1 ha.2.1 (fun q => ha.2.2.2.2 (h1.2.2.2.2.1 (by rw [← e32]; exact q))) (fun q => e32.symm.trans q)
  refine ⟨cb, fun q => ?_⟩
  obtain ⟨g, n⟩ := h2 (e32.symm.trans q)
  have gn := ha.gain h1.2.2.1
  have e34 : sgI R = sgI s := by unfold sgI; rw [ha.1.2 34 (by decide) (by decide) (by decide) (by decide)]
  refine ⟨g.ck h1.1 t9.ck, t9.nb n h1.1 ⟨h1.2.2.2.2.2.2.1.1, h1.2.2.2.2.2.2.1.2.1⟩ h1.2.2.2.2.2.2.1.2.2 ?_ gn.1 (hxy (e32.symm.trans q)).1 (hxy (e32.symm.trans q)).2 (by rw [e34]; exact ⟨n.2.2.2.2.2.2.1, n.2.2.2.1⟩)⟩
  by_cases z : s.i 43 = 0
  · have z2 := ha.2.2.2.2 z
    have n1 : ¬ ALN (s.i 43) := fun y => by unfold ALN at y; rw [z, z_t0] at y; omega
    have n2 : ¬ ALN (R.i 43) := fun y => by unfold ALN at y; rw [z2, z_t0] at y; omega
    rw [eI.sg n1, eI.sg n2]
    have := gn.1
    omega
  · exact (gn.2.1 z).2
theorem JJ.flt {H : HB} {x y : Int} {c : List Nat} {X : List (Nat × List Nat)} {P : List Nat} {lim : List Int} {s R : CS} (h : CBS H s) (hf : FLD s R) : JJ H x y c X P lim R := ⟨hf.t9.cb h hf.2.2.1 (fun _ => hf.2.2.2.2) (fun q => absurd q hf.2.2.2.1), fun q => absurd q hf.2.2.2.1⟩
theorem q_found {N : Nat} (s : CS) (x : Int32) : ok (f_X1_found N s x) (fun R => R.2 = s ∧ ((R.1 = 0 ∧ ¬ s.i 43 = x) ∨ (R.1 = 1 ∧ s.i 43 = x))) := by
  unfold f_X1_found
  exact ok_ite (fun c => ok_some ⟨rfl, Or.inr ⟨rfl, c⟩⟩) (fun c => ok_some ⟨rfl, Or.inl ⟨rfl, c⟩⟩)
theorem q_misp {N : Nat} {H : HB} {s : CS} (h : CBS H s) : ok (f_X1_misplaced N s) (fun R => FLD s R.2) := by
  unfold f_X1_misplaced
  refine ok_bind (q_found s 6) (fun p hp => ?_)
  rw [hp.1]
  exact ok_ite (fun _ => ok_bind (q_fail h.2.2.1 h.2.2.2.2.1 _ _ (by decide)) (fun q hq => ok_some hq)) (fun _ => ok_bind (q_fail h.2.2.1 h.2.2.2.2.1 _ _ (by decide)) (fun q hq => ok_some hq))
theorem q_failC {N : Nat} {H : HB} {s : CS} (h : CBS H s) (x y : Int32) (hx : ¬ x = 0) : ok (f_X1_fail N s x y) (fun R => FLD s R.2) := q_fail h.2.2.1 h.2.2.2.2.1 x y hx
theorem q_advC {N : Nat} {H : HB} (hN : 1000 ≤ N) {s : CS} (h : CBS H s) : ok (f_X9_advance N s) (fun R => ADV s R.2) := q_advance hN h.2.2.2.1 h.2.2.1
theorem q_skip {N : Nat} {H : HB} (hN : 1000 ≤ N) {s : CS} (h : CBS H s) (x : Int32) : ok (f_X1_skip N s x) (fun R => (R.1 = 0 ∧ R.2 = s ∧ ¬ s.i 43 = x) ∨ (R.1 = 1 ∧ s.i 43 = x ∧ ADV s R.2)) := by
  unfold f_X1_skip f_X1_skip_17
  refine ok_bind (q_found s x) (fun p hp => ?_)
  obtain ⟨p1, p2⟩ := hp
  rcases p2 with ⟨q1, q2⟩ | ⟨q1, q2⟩
  · rw [if_pos q1, q1, p1]
    exact ok_chk (Or.inl rfl) (ok_some (Or.inl ⟨rfl, rfl, q2⟩))
  · rw [q1, p1, if_neg (by decide)]
    refine ok_bind (q_advC hN h) (fun q hq => ?_)
    exact ok_chk (Or.inr rfl) (ok_some (Or.inr ⟨rfl, q2, hq⟩))
theorem q_expect {N : Nat} {H : HB} (hN : 1000 ≤ N) {s : CS} (h : CBS H s) (x : Int32) : ok (f_X1_expect N s x) (fun R => FLD s R.2 ∨ (s.i 43 = x ∧ ADV s R.2)) := by
  unfold f_X1_expect
  refine ok_bind (q_found s x) (fun p hp => ?_)
  obtain ⟨p1, p2⟩ := hp
  rw [p1]
  rcases p2 with ⟨q1, q2⟩ | ⟨q1, q2⟩
  · rw [if_pos q1]
    exact ok_bind (q_misp h) (fun q hq => ok_some (Or.inl hq))
  · rw [q1, if_neg (by decide)]
    exact ok_bind (q_advC hN h) (fun q hq => ok_some (Or.inr ⟨q2, hq⟩))
/-- a sign is opened -/
theorem q_open {N : Nat} {H : HB} (hN : 1000 ≤ N) {s : CS} (h : CBS H s) (x : Int32) : ok (f_X1_open N s x) (fun R => FLD s R.2 ∨ (s.i 43 = x ∧ s.i 34 < 20 ∧ ADV (CS.setI s 34 (s.i 34 + 1)) R.2)) := by
  unfold f_X1_open
  refine ok_bind (q_found s x) (fun p hp => ?_)
  obtain ⟨p1, p2⟩ := hp
  rw [p1]
  rcases p2 with ⟨q1, q2⟩ | ⟨q1, q2⟩
  · rw [if_pos q1]
    exact ok_bind (q_misp h) (fun q hq => ok_some (Or.inl hq))
  · rw [q1, if_neg (by decide)]
    refine ok_ite (fun c => ?_) (fun _ => ok_bind (q_failC h 6 _ (by decide)) (fun q hq => ok_some (Or.inl hq)))
    have t9 : TS9 s (CS.setI s 34 (s.i 34 + 1)) := (TS9.rf s).i34 _
    have hl : LC (CS.setI s 34 (s.i 34 + 1)) := h.2.2.1
    have hw : WDC (CS.setI s 34 (s.i 34 + 1)) := h.2.2.2.1
    exact ok_bind (q_advance hN hw hl) (fun q hq => ok_some (Or.inr ⟨q2, c, hq⟩))
