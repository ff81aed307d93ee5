theorem okI_range {s : RS} {g : Gh} {k : Nat} {c : Ctx} (h : OKI s g k c) : ∃ m : Nat, 1 ≤ m ∧ m ≤ 36 ∧ gv s 21 k = (m : Int) := by
  by_cases q : 1 ≤ (gv s 21 k).toNat ∧ (gv s 21 k).toNat ≤ 36
  · exact ⟨(gv s 21 k).toNat, q.1, q.2, by omega⟩
  · exfalso
    unfold OKI at h
    generalize (gv s 21 k).toNat = m at h q
    match m, q, h with
    | 0, _, h => exact h
    | n + 37, _, h => exact h
    | 1, q, _ => exact q (by decide)
    | 2, q, _ => exact q (by decide)
    | 3, q, _ => exact q (by decide)
    | 4, q, _ => exact q (by decide)
    | 5, q, _ => exact q (by decide)
    | 6, q, _ => exact q (by decide)
    | 7, q, _ => exact q (by decide)
    | 8, q, _ => exact q (by decide)
    | 9, q, _ => exact q (by decide)
    | 10, q, _ => exact q (by decide)
    | 11, q, _ => exact q (by decide)
    | 12, q, _ => exact q (by decide)
    | 13, q, _ => exact q (by decide)
    | 14, q, _ => exact q (by decide)
    | 15, q, _ => exact q (by decide)
    | 16, q, _ => exact q (by decide)
    | 17, q, _ => exact q (by decide)
    | 18, q, _ => exact q (by decide)
    | 19, q, _ => exact q (by decide)
    | 20, q, _ => exact q (by decide)
    | 21, q, _ => exact q (by decide)
    | 22, q, _ => exact q (by decide)
    | 23, q, _ => exact q (by decide)
    | 24, q, _ => exact q (by decide)
    | 25, q, _ => exact q (by decide)
    | 26, q, _ => exact q (by decide)
    | 27, q, _ => exact q (by decide)
    | 28, q, _ => exact q (by decide)
    | 29, q, _ => exact q (by decide)
    | 30, q, _ => exact q (by decide)
    | 31, q, _ => exact q (by decide)
    | 32, q, _ => exact q (by decide)
    | 33, q, _ => exact q (by decide)
    | 34, q, _ => exact q (by decide)
    | 35, q, _ => exact q (by decide)
    | 36, q, _ => exact q (by decide)
/-- at an instruction -/
def PRE (s σ τ : RS) (g : Gh) (k : Nat) (c : Ctx) (x1 : Int32) : Prop := WT s g ∧ RB s ∧ (k : Int) < cdI s ∧ g.T k c ∧ BS s σ τ g ∧ ST s τ g c.h c.o c.rs ∧ (τ.i 92).toInt = (k : Int) + 1 ∧ x1.toInt = k ∧ (c.one = true → gv τ 94 (c.h - 1) = 1)
theorem PRE.fact {s σ τ : RS} {g : Gh} {k : Nat} {c : Ctx} {x1 : Int32} (h : PRE s σ τ g k c x1) : OKI s g k c ∧ recsOK s g k c.v c.rs ∧ c.h ≤ 1300 ∧ wv c.rs ≤ 450 ∧ oOK c.o c.rs ∧ c.o ≤ 450 ∧ c.rs.length ≤ 250 ∧ c.v ≤ 3000 ∧ (c.one = true → 1 ≤ c.h) := by
  obtain ⟨hW, -, hk, hT, -⟩ := h
  obtain ⟨-, -, -, -, -, -, -, -, w9, -, -⟩ := hW
  exact w9 k c hk hT
theorem PRE.n {s σ τ : RS} {g : Gh} {k : Nat} {c : Ctx} {x1 : Int32} (h : PRE s σ τ g k c x1) : x1.toNatClampNeg = k := by
  obtain ⟨-, -, -, -, -, -, -, e, -⟩ := h
  show x1.toInt.toNat = k
  rw [e]; exact Int.toNat_natCast _
theorem PRE.inb {s σ τ : RS} {g : Gh} {k : Nat} {c : Ctx} {x1 : Int32} (h : PRE s σ τ g k c x1) : ib x1 3000 := by
  obtain ⟨hW, -, hk, -, -, -, -, e, -⟩ := h
  have := hW.1
  exact ⟨by omega, by omega⟩
theorem PRE.g {s σ τ : RS} {g : Gh} {k : Nat} {c : Ctx} {x1 : Int32} (h : PRE s σ τ g k c x1) (a : Nat) (ha : a < 82) : (τ.a a x1.toNatClampNeg).toInt = gv s a k := by
  rw [h.n]
  obtain ⟨-, -, -, -, hb, -⟩ := h
  exact gv_of (hb.1.2.2.2 a ha) k
/-- leave, from here -/
theorem PRE.leave {N : Nat} (hN : 1000 ≤ N) {s σ τ τ' : RS} {g : Gh} {k h h' : Nat} {c : Ctx} {x1 : Int32} (hp : PRE s σ τ g k c x1) (hb : BS s σ τ' g) (hs : ST s τ' g h' c.o c.rs) (ht : TR s τ' g k c.v h c.o c.rs) : ok ((f_X12_leave N τ').bind fun p => some p) (fun R => ACT s σ R g k c.v) := by
  obtain ⟨k1, k2, k3, k4, k5, k6, k7, k8, k9⟩ := hp.fact
  obtain ⟨hW, hB, -⟩ := hp
  obtain ⟨a1, a2, a3, a4, a5, a6⟩ := hs
  unfold f_X12_leave
  refine ok_bind (p_leave hN hW hB N τ' c.o c.rs ⟨hb.1, hb.1.B hB, hb.2.1, a5, k7, a6, k2, a2, a3, a4, k6, k5, ht⟩ (by omega)) (fun R hR => ok_some ?_)
  exact LO.act (hR.of hb.2.2.1 hb.2.2.2)
theorem p_record (N : Nat) (σ : RS) (x1 x2 x3 x4 : Int32) (h0 : 0 ≤ (σ.i 99).toInt) (h1 : (σ.i 99).toInt ≤ 250) : ok (f_X12_record N σ x1 x2 x3 x4) (fun R => RX σ R.2 ∧ (R.2.i 99).toInt = (σ.i 99).toInt + 1 ∧ (∀ j : Nat, j ≠ 99 → R.2.i j = σ.i j) ∧ (∀ k : Nat, k < 100 ∨ 105 ≤ k → R.2.a k = σ.a k) ∧ R.2.a 100 = upd (σ.a 100) (σ.i 99).toNatClampNeg x1 ∧ R.2.a 101 = upd (σ.a 101) (σ.i 99).toNatClampNeg x2 ∧ R.2.a 102 = upd (σ.a 102) (σ.i 99).toNatClampNeg x3 ∧ R.2.a 103 = upd (σ.a 103) (σ.i 99).toNatClampNeg x4 ∧ R.2.a 104 = upd (σ.a 104) (σ.i 99).toNatClampNeg (σ.i 93)) := by
  unfold f_X12_record
  have e1 : (1 : Int32).toInt = 1 := by decide
  refine ok_chk ⟨h0, by omega⟩ (ok_some ⟨?_, ?_, fun j hj => if_neg hj, fun k hk => ?_, rfl, rfl, rfl, rfl, rfl⟩)
  · exact (((((RX.a _ _ _ _ (by decide)).tr (RX.a _ _ _ _ (by decide))).tr (RX.a _ _ _ _ (by decide))).tr (RX.a _ _ _ _ (by decide))).tr (RX.a _ _ _ _ (by decide))).tr (RX.i _ _ _ (by decide))
  · show (σ.i 99 + 1).toInt = _
    rw [toInt_add] <;> rw [e1] <;> omega
  · show (if k = 104 then _ else if k = 103 then _ else if k = 102 then _ else if k = 101 then _ else if k = 100 then _ else σ.a k) = σ.a k
    rw [if_neg (by omega), if_neg (by omega), if_neg (by omega), if_neg (by omega), if_neg (by omega)]
/-- a record more -/
theorem ST.rec {s σ τ R : RS} {g : Gh} {h o : Nat} {rs : List Rec} {r : Rec} (hs : ST s τ g h o rs) (hw : wv (r :: rs) = wv rs) (hk : r.k = 1 ∨ r.k = 3 ∨ r.k = 4 ∧ r.p = 0) (hh : r.h = h) {x1 x2 x3 x4 : Int32} (e1 : x1.toInt = r.k) (e2 : x2.toInt = r.a) (e3 : r.k = 4 → x3.toInt = 0) (e4 : r.k = 4 → 0 ≤ x4.toInt ∧ x4.toInt ≤ r.o)
    (r2 : (R.i 99).toInt = (τ.i 99).toInt + 1) (r3 : ∀ j : Nat, j ≠ 99 → R.i j = τ.i j) (r4 : ∀ k : Nat, k < 100 ∨ 105 ≤ k → R.a k = τ.a k) (a0 : R.a 100 = upd (τ.a 100) (τ.i 99).toNatClampNeg x1) (a1 : R.a 101 = upd (τ.a 101) (τ.i 99).toNatClampNeg x2) (a2 : R.a 102 = upd (τ.a 102) (τ.i 99).toNatClampNeg x3) (a3 : R.a 103 = upd (τ.a 103) (τ.i 99).toNatClampNeg x4) (a4 : R.a 104 = upd (τ.a 104) (τ.i 99).toNatClampNeg (τ.i 93)) : ST s R g h o (r :: rs) := by
  obtain ⟨b1, b2, b3, b4, b5, b6⟩ := hs
  have en : (τ.i 99).toNatClampNeg = rs.length := by
    show (τ.i 99).toInt.toNat = rs.length
    rw [b5]; exact Int.toNat_natCast _
  rw [en] at a0 a1 a2 a3 a4
  have other : ∀ i : Nat, i < rs.length → ∀ k9 : Nat, 100 ≤ k9 → k9 ≤ 109 → gv R k9 i = gv τ k9 i := by
    intro i hi k9 h1 h2
    have hne : ¬ i = rs.length := by omega
    by_cases c : 105 ≤ k9
    · exact gv_of (r4 k9 (Or.inr c)) i
    · rcases (show k9 = 100 ∨ k9 = 101 ∨ k9 = 102 ∨ k9 = 103 ∨ k9 = 104 by omega) with rfl | rfl | rfl | rfl | rfl
      · rw [gv_upd a0, if_neg hne]; rfl
      · rw [gv_upd a1, if_neg hne]; rfl
      · rw [gv_upd a2, if_neg hne]; rfl
      · rw [gv_upd a3, if_neg hne]; rfl
      · rw [gv_upd a4, if_neg hne]; rfl
  refine ⟨by rw [r3 93 (by decide)]; exact b1, by rw [r3 97 (by decide), hw]; exact b2, by rw [r3 95 (by decide)]; exact b3, by rw [r3 95 (by decide)]; exact b4, by rw [r2, b5]; rfl, ⟨?_, ?_, ?_, ?_, ?_, ?_⟩, RM.of (σ := τ) other b6⟩
  · rw [gv_upd a0, if_pos rfl]; exact e1
  · rw [gv_upd a4, if_pos rfl, b1, hh]
  · intro _; rw [gv_upd a1, if_pos rfl]; exact e2
  · intro q; rcases hk with h9 | h9 | h9
    · rw [h9] at q; exact absurd q (by decide)
    · rw [h9] at q; exact absurd q (by decide)
    · rw [h9.1] at q; exact absurd q (by decide)
  · intro _; rw [gv_upd a1, if_pos rfl]; exact e2
  · intro q
    have hp : r.p = 0 := by
      rcases hk with h9 | h9 | h9
      · rw [h9] at q; exact absurd q (by decide)
      · rw [h9] at q; exact absurd q (by decide)
      · exact h9.2
    refine ⟨by rw [gv_upd a1, if_pos rfl]; exact e2, by rw [gv_upd a2, if_pos rfl, e3 q, hp]; rfl, ?_, ?_, fun z => by rw [hp] at z; exact absurd z (by decide)⟩
    · rw [gv_upd a3, if_pos rfl]; exact (e4 q).1
    · rw [gv_upd a3, if_pos rfl]; exact (e4 q).2
theorem BS.rec {s σ τ R : RS} {g : Gh} (hb : BS s σ τ g) (hX : RX τ R) (r3 : ∀ j : Nat, j ≠ 99 → R.i j = τ.i j) (r4 : ∀ k : Nat, k < 100 ∨ 105 ≤ k → R.a k = τ.a k) : BS s σ R g := hb.of hX (r3 95 (by decide)) (r4 96 (by omega)) (r4 84 (by omega)) (r3 81 (by decide)) (r3 85 (by decide)) (r3 80 (by decide)) (r4 88 (by omega)) (r4 86 (by omega)) (r3 115 (by decide))
theorem BS.row {s σ τ R : RS} {g : Gh} (hb : BS s σ τ g) (hX : RX τ R) (h0 : 0 ≤ R.i 81) (h1 : R.i 81 ≤ 200) (r3 : ∀ j : Nat, j ≠ 81 → R.i j = τ.i j) (r4 : ∀ k : Nat, k ≠ 82 → k ≠ 83 → R.a k = τ.a k) : BS s σ R g := by
  obtain ⟨b1, b2, b3, b4⟩ := hb
  obtain ⟨E1, E2, E3, E4, E5, E6, E7⟩ := b2
  refine ⟨b1.tr hX, ⟨fun j h2 h3 => ?_, fun y h2 h3 => ?_, ⟨h0, h1⟩, ?_, ?_, fun t h2 => ?_, fun t h2 => ?_⟩, (r3 80 (by decide)).trans b3, (r3 115 (by decide)).trans b4⟩
  · rw [gv_of (r4 96 (by decide) (by decide))]; rw [r3 95 (by decide)] at h3; exact E1 j h2 h3
  · rw [gv_of (r4 84 (by decide) (by decide))]; exact E2 y h2 h3
  · rw [r3 85 (by decide)]; exact E4
  · rw [r3 80 (by decide)]; exact E5
  · rw [gv_of (r4 88 (by decide) (by decide))]; exact E6 t h2
  · rw [gv_of (r4 86 (by decide) (by decide)), r3 3 (by decide)]; exact E7 t h2
theorem ST.row {s σ R : RS} {g : Gh} {h o : Nat} {rs : List Rec} (hs : ST s σ g h o rs) (r3 : ∀ j : Nat, j ≠ 81 → R.i j = σ.i j) (r4 : ∀ k : Nat, k ≠ 82 → k ≠ 83 → R.a k = σ.a k) : ST s R g h o rs := hs.of (by rw [r3 93 (by decide)]; exact hs.1) (r3 97 (by decide)) (r3 95 (by decide)) (r3 99 (by decide)) (fun k9 h1 _ => r4 k9 (by omega) (by omega))
/-- raise, then leave -/
theorem PRE.raise {N : Nat} (hN : 1000 ≤ N) {s σ τ τ' : RS} {g : Gh} {k h' : Nat} {c : Ctx} {x1 : Int32} (hp : PRE s σ τ g k c x1) (hb : BS s σ τ' g) (hs : ST s τ' g h' c.o c.rs) {x y : Int32} (hx : x.toInt < (s.i 3).toInt) : ok ((f_X12_raise N τ' x y).bind fun p => (f_X12_leave N p).bind fun q => some q) (fun R => ACT s σ R g k c.v) := by
  obtain ⟨b1, b2, b3, b4⟩ := hb
  obtain ⟨E1, E2, E3, E4, E5, E6, E7⟩ := b2
  refine ok_bind (p_raise N τ' x y E4.1 E4.2) (fun q hq => ?_)
  obtain ⟨a1, a2, a3, a4, a5, a6, a7, a8, a9, a10⟩ := hq
  have hq3 : q.i 3 = τ'.i 3 := a7 3 (by decide) (by decide) (by decide)
  have h3s : τ'.i 3 = s.i 3 := b1.2.2.1 3 (by decide)
  refine hp.leave hN (h := 0) (h' := h') ⟨b1.tr a1, ⟨fun j h2 h3 => ?_, fun y h2 h3 => ?_, ?_, ⟨a5, a6⟩, ?_, fun t h2 => ?_, fun t h2 => ?_⟩, (a7 80 (by decide) (by decide) (by decide)).trans b3, (a7 115 (by decide) (by decide) (by decide)).trans b4⟩ (hs.of (by rw [a7 93 (by decide) (by decide) (by decide)]; exact hs.1) (a7 97 (by decide) (by decide) (by decide)) (a7 95 (by decide) (by decide) (by decide)) (a7 99 (by decide) (by decide) (by decide)) (fun k9 h1 _ => a8 k9 (by omega) (by omega) (by omega))) (Or.inr (Or.inr (Or.inl ⟨a2, a3, a4⟩)))
  · rw [gv_of (a8 96 (by decide) (by decide) (by decide))]
    rw [a7 95 (by decide) (by decide) (by decide)] at h3
    exact E1 j h2 h3
  · rw [gv_of (a8 84 (by decide) (by decide) (by decide))]; exact E2 y h2 h3
  · rw [a7 81 (by decide) (by decide) (by decide)]; exact E3
  · rw [a7 80 (by decide) (by decide) (by decide)]; exact E5
  · rw [gv_upd a10]
    by_cases w : t = (q.i 114).toNatClampNeg
    · rw [if_pos w, z_t0]; decide
    · rw [if_neg w]; exact E6 t h2
  · rw [gv_upd a9, hq3]
    by_cases w : t = (q.i 114).toNatClampNeg
    · rw [if_pos w, h3s]; exact hx
    · rw [if_neg w]; exact E7 t h2
