/-! reading: what stays, what stands -/
def enI (s : RS) : Int := (s.i 24).toInt
def trI (s : RS) : Int := (s.i 29).toInt
def caI (s : RS) : Int := (s.i 33).toInt
def seI (s : RS) : Int := (s.i 38).toInt
def slI (s : RS) : Int := (s.i 42).toInt
def goI (s : RS) : Int := (s.i 43).toInt
def deI (s : RS) : Int := (s.i 52).toInt
def waI (s : RS) : Int := (s.i 56).toInt
def peI (s : RS) : Int := (s.i 59).toInt
def tpI (s : RS) : Int := (s.i 63).toInt
def bel (k : Nat) (n : Int) (s u : RS) : Prop := ∀ j : Nat, (j : Int) < n → u.a k j = s.a k j
theorem bel.tr {k : Nat} {n m : Int} {s u w : RS} (h1 : bel k n s u) (h2 : bel k m u w) (h : n ≤ m) : bel k n s w := fun j hj => (h2 j (by omega)).trans (h1 j hj)
theorem bel.rf (k : Nat) (n : Int) (s : RS) : bel k n s s := fun _ _ => rfl
/-- the sites of a chain, newest first -/
def ISCH (s : RS) : Int → List Nat → Prop
  | h, [] => h < 0
  | h, x :: L => h = (x : Int) ∧ s.a 21 x = 36 ∧ ISCH s (gv s 22 x) L
def bk : Bool → Nat
  | true => 48
  | false => 49
def hd (s : RS) (b : Bool) (γ : Nat) : Int := gv s (bk b) γ
theorem ISCH.of {s u : RS} : ∀ {L : List Nat} {h : Int}, ISCH s h L → (∀ x ∈ L, u.a 21 x = s.a 21 x ∧ u.a 22 x = s.a 22 x) → ISCH u h L
  | [], _, h, _ => h
  | x :: L, _, ⟨h1, h2, h3⟩, hu => by
    have e := hu x (List.mem_cons_self ..)
    refine ⟨h1, e.1.trans h2, ?_⟩
    unfold gv
    rw [e.2]
    exact ISCH.of h3 (fun y hy => hu y (List.mem_cons_of_mem _ hy))
theorem ISCH.uniq {s : RS} : ∀ {L M : List Nat} {h : Int}, ISCH s h L → ISCH s h M → L = M
  | [], [], _, _, _ => rfl
  | [], y :: M, _, h1, h2 => by have h1 : _ < (0 : Int) := h1; have := h2.1; omega
  | x :: L, [], _, h1, h2 => by have h2 : _ < (0 : Int) := h2; have := h1.1; omega
  | x :: L, y :: M, _, h1, h2 => by
    have e : x = y := by have := h1.1; have := h2.1; omega
    subst e
    rw [ISCH.uniq h1.2.2 h2.2.2]
theorem ISCH.op {s : RS} : ∀ {L : List Nat} {h : Int}, ISCH s h L → ∀ x ∈ L, s.a 21 x = 36
  | [], _, _, x, hx => absurd hx (List.not_mem_nil)
  | y :: L, _, h, x, hx => by
    rcases List.mem_cons.mp hx with rfl | hx
    · exact h.2.1
    · exact ISCH.op h.2.2 x hx
def NOARM (s : RS) (γ : Nat) : Prop := ∀ δ : Nat, γ < δ → (δ : Int) < goI s → ¬ s.a 44 δ = 3
/-- a label on top, one of a row that waits for its loop -/
def TOPR (s : RS) (γ : Nat) : Prop := (γ : Int) < goI s ∧ ∀ δ : Nat, γ ≤ δ → (δ : Int) < goI s → s.a 44 δ = 2 ∧ (s.a 46 δ = -2 ∨ s.a 46 δ = -3)
def K1 (s u : RS) : Prop := (∀ j : Nat, j < 10 ∨ 76 ≤ j → u.i j = s.i j) ∧ (∀ k : Nat, k < 10 ∨ 76 ≤ k → u.a k = s.a k) ∧ u.b 9 = s.b 9
def K1' (s u : RS) : Prop := K1 s u ∧ (0 ≤ s.i 18 → 0 ≤ u.i 18)
def KC (s u : RS) : Prop := cdI s ≤ cdI u ∧ bel 21 (cdI s) s u ∧ bel 22 (cdI s) s u ∧ bel 23 (cdI s) s u
def KE (s u : RS) : Prop := enI s ≤ enI u ∧ bel 25 (enI s) s u ∧ bel 26 (enI s) s u ∧ bel 27 (enI s) s u ∧ bel 28 (enI s) s u
def KT (s u : RS) : Prop := trI s ≤ trI u ∧ bel 30 (trI s) s u ∧ bel 31 (trI s) s u ∧ bel 32 (trI s) s u
def KH (s u : RS) : Prop := caI s ≤ caI u ∧ bel 34 (caI s) s u ∧ bel 35 (caI s) s u ∧ bel 36 (caI s) s u ∧ bel 37 (caI s) s u ∧ (∀ j : Nat, caI s ≤ j → (j : Int) < caI u → slI s ≤ gv u 36 j ∧ gv u 36 j < slI u)
def KS (s u : RS) : Prop := seI s ≤ seI u ∧ slI s ≤ slI u ∧ bel 40 (seI s) s u ∧ bel 41 (seI s) s u
def KG (s u : RS) : Prop := goI s ≤ goI u ∧ bel 44 (goI s) s u ∧ bel 47 (goI s) s u ∧ (∀ γ : Nat, (γ : Int) < goI s → s.a 50 γ = 1 → u.a 50 γ = 1) ∧ (∀ γ : Nat, (γ : Int) < goI s → s.a 51 γ = 1 → u.a 51 γ = 1) ∧ (∀ γ : Nat, (γ : Int) < goI s → u.a 46 γ = s.a 46 γ ∨ TOPR s γ)
def KN (s u : RS) : Prop := ∀ (γ : Nat) (b : Bool) (L : List Nat), (γ : Int) < goI s → ISCH s (hd s b γ) L → (∀ x ∈ L, (x : Int) < cdI s) → ∃ L1, ISCH u (hd u b γ) (L1 ++ L) ∧ ∀ x ∈ L1, cdI s ≤ (x : Int) ∧ (x : Int) < cdI u
def KW (s u : RS) : Prop := waI s ≤ waI u ∧ bel 57 (waI s) s u ∧ bel 58 (waI s) s u
def KQ (s u : RS) : Prop := peI s ≤ peI u ∧ bel 60 (peI s) s u ∧ bel 61 (peI s) s u ∧ bel 62 (peI s) s u
def KF (t : Nat) (s u : RS) : Prop := ∀ k : Nat, 64 ≤ k → k ≤ 73 → bel k t s u
/-- what a part of the reading leaves as it is: the frames below t, all that lies below the counters -/
def KP (t : Nat) (s u : RS) : Prop := K1' s u ∧ KC s u ∧ KE s u ∧ KT s u ∧ KH s u ∧ KS s u ∧ KG s u ∧ KN s u ∧ KW s u ∧ KQ s u ∧ KF t s u
theorem K1.rf (s : RS) : K1 s s := ⟨fun _ _ => rfl, fun _ _ => rfl, rfl⟩
theorem K1.tr {s u w : RS} (h1 : K1 s u) (h2 : K1 u w) : K1 s w := ⟨fun j hj => (h2.1 j hj).trans (h1.1 j hj), fun k hk => (h2.2.1 k hk).trans (h1.2.1 k hk), h2.2.2.trans h1.2.2⟩
theorem KP.rf (t : Nat) (s : RS) : KP t s s := by
  refine ⟨⟨K1.rf s, id⟩, ⟨Int.le_refl _, bel.rf _ _ _, bel.rf _ _ _, bel.rf _ _ _⟩, ⟨Int.le_refl _, bel.rf _ _ _, bel.rf _ _ _, bel.rf _ _ _, bel.rf _ _ _⟩, ⟨Int.le_refl _, bel.rf _ _ _, bel.rf _ _ _, bel.rf _ _ _⟩, ⟨Int.le_refl _, bel.rf _ _ _, bel.rf _ _ _, bel.rf _ _ _, bel.rf _ _ _, fun j h1 h2 => by omega⟩, ⟨Int.le_refl _, Int.le_refl _, bel.rf _ _ _, bel.rf _ _ _⟩, ⟨Int.le_refl _, bel.rf _ _ _, bel.rf _ _ _, fun _ _ h => h, fun _ _ h => h, fun _ _ => Or.inl rfl⟩, fun γ b L _ h hL => ⟨[], h, fun x hx => absurd hx List.not_mem_nil⟩, ⟨Int.le_refl _, bel.rf _ _ _, bel.rf _ _ _⟩, ⟨Int.le_refl _, bel.rf _ _ _, bel.rf _ _ _, bel.rf _ _ _⟩, fun k _ _ => bel.rf _ _ _⟩
theorem KP.tr {t t' : Nat} {s u w : RS} (h1 : KP t s u) (h2 : KP t' u w) (ht : t ≤ t') : KP t s w := by
  obtain ⟨⟨a1, a1'⟩, a2, a3, a4, a5, a6, a7, a8, a9, a10, a11⟩ := h1
  obtain ⟨⟨b1, b1'⟩, b2, b3, b4, b5, b6, b7, b8, b9, b10, b11⟩ := h2
  refine ⟨⟨a1.tr b1, fun h => b1' (a1' h)⟩, ⟨Int.le_trans a2.1 b2.1, a2.2.1.tr b2.2.1 a2.1, a2.2.2.1.tr b2.2.2.1 a2.1, a2.2.2.2.tr b2.2.2.2 a2.1⟩, ⟨Int.le_trans a3.1 b3.1, a3.2.1.tr b3.2.1 a3.1, a3.2.2.1.tr b3.2.2.1 a3.1, a3.2.2.2.1.tr b3.2.2.2.1 a3.1, a3.2.2.2.2.tr b3.2.2.2.2 a3.1⟩, ⟨Int.le_trans a4.1 b4.1, a4.2.1.tr b4.2.1 a4.1, a4.2.2.1.tr b4.2.2.1 a4.1, a4.2.2.2.tr b4.2.2.2 a4.1⟩, ⟨Int.le_trans a5.1 b5.1, a5.2.1.tr b5.2.1 a5.1, a5.2.2.1.tr b5.2.2.1 a5.1, a5.2.2.2.1.tr b5.2.2.2.1 a5.1, a5.2.2.2.2.1.tr b5.2.2.2.2.1 a5.1, ?_⟩, ⟨Int.le_trans a6.1 b6.1, Int.le_trans a6.2.1 b6.2.1, a6.2.2.1.tr b6.2.2.1 a6.1, a6.2.2.2.tr b6.2.2.2 a6.1⟩, ⟨Int.le_trans a7.1 b7.1, a7.2.1.tr b7.2.1 a7.1, a7.2.2.1.tr b7.2.2.1 a7.1, fun γ hγ h => b7.2.2.2.1 γ (by have := a7.1; omega) (a7.2.2.2.1 γ hγ h), fun γ hγ h => b7.2.2.2.2.1 γ (by have := a7.1; omega) (a7.2.2.2.2.1 γ hγ h), ?_⟩, ?_, ⟨Int.le_trans a9.1 b9.1, a9.2.1.tr b9.2.1 a9.1, a9.2.2.tr b9.2.2 a9.1⟩, ⟨Int.le_trans a10.1 b10.1, a10.2.1.tr b10.2.1 a10.1, a10.2.2.1.tr b10.2.2.1 a10.1, a10.2.2.2.tr b10.2.2.2 a10.1⟩, fun k k1 k2 => (a11 k k1 k2).tr (b11 k k1 k2) (by omega)⟩
  · intro j h1 h2
    have sl1 := a6.2.1
    have sl2 := b6.2.1
    by_cases hj : (j : Int) < caI u
    · have := a5.2.2.2.2.2 j h1 hj
      have e : gv w 36 j = gv u 36 j := by unfold gv; rw [b5.2.2.2.1 j hj]
      rw [e]; omega
    · have := b5.2.2.2.2.2 j (by omega) h2
      omega
  · intro γ hγ
    have hγ' : (γ : Int) < goI u := by have := a7.1; omega
    rcases a7.2.2.2.2.2 γ hγ with h | h
    · rcases b7.2.2.2.2.2 γ hγ' with h' | h'
      · exact Or.inl (h'.trans h)
      · refine Or.inr ⟨hγ, fun δ d1 d2 => ?_⟩
        obtain ⟨e1, e2⟩ := h'.2 δ d1 (by have := a7.1; omega)
        rw [a7.2.1 δ d2] at e1
        refine ⟨e1, ?_⟩
        rcases a7.2.2.2.2.2 δ d2 with q | q
        · rw [q] at e2; exact e2
        · exact (q.2 δ (Nat.le_refl _) d2).2
    · exact Or.inr h
  · intro γ b L hγ h hL
    obtain ⟨L1, c1, c2⟩ := a8 γ b L hγ h hL
    have hcd := a2.1
    have hcd' := b2.1
    obtain ⟨L2, d1, d2⟩ := b8 γ b (L1 ++ L) (by have := a7.1; omega) c1 (fun x hx => by
      rcases List.mem_append.mp hx with hx | hx
      · exact (c2 x hx).2
      · have := hL x hx; omega)
    refine ⟨L2 ++ L1, by rw [List.append_assoc]; exact d1, fun x hx => ?_⟩
    rcases List.mem_append.mp hx with hx | hx
    · have := d2 x hx; omega
    · have := c2 x hx; omega
/-- only scalars that nothing here speaks of change -/
theorem KP.ext {t : Nat} {s u w : RS} (h : KP t s u) (ha : w.a = u.a) (hb : w.b 9 = u.b 9) (h18 : 0 ≤ u.i 18 → 0 ≤ w.i 18) (hi : ∀ j : Nat, j < 10 ∨ 20 ≤ j → ¬ (52 ≤ j ∧ j ≤ 55) → j ≠ 63 → j ≠ 75 → w.i j = u.i j) : KP t s w := by
  obtain ⟨⟨a1, a1'⟩, a2, a3, a4, a5, a6, a7, a8, a9, a10, a11⟩ := h
  have cd : cdI w = cdI u := by unfold cdI; rw [hi 20 (by omega) (by omega) (by omega) (by omega)]
  have ee : enI w = enI u := by unfold enI; rw [hi 24 (by omega) (by omega) (by omega) (by omega)]
  have et : trI w = trI u := by unfold trI; rw [hi 29 (by omega) (by omega) (by omega) (by omega)]
  have ec : caI w = caI u := by unfold caI; rw [hi 33 (by omega) (by omega) (by omega) (by omega)]
  have es : seI w = seI u := by unfold seI; rw [hi 38 (by omega) (by omega) (by omega) (by omega)]
  have el : slI w = slI u := by unfold slI; rw [hi 42 (by omega) (by omega) (by omega) (by omega)]
  have eg : goI w = goI u := by unfold goI; rw [hi 43 (by omega) (by omega) (by omega) (by omega)]
  have ew : waI w = waI u := by unfold waI; rw [hi 56 (by omega) (by omega) (by omega) (by omega)]
  have ep : peI w = peI u := by unfold peI; rw [hi 59 (by omega) (by omega) (by omega) (by omega)]
  have eb : ∀ (k : Nat) (n : Int), bel k n s w = bel k n s u := fun k n => by unfold bel; rw [ha]
  have eI : ∀ (L : List Nat) (x : Int), ISCH u x L → ISCH w x L := fun L x hx => hx.of (fun y _ => by rw [ha]; exact ⟨rfl, rfl⟩)
  refine ⟨⟨⟨fun j hj => (hi j (by omega) (by omega) (by omega) (by omega)).trans (a1.1 j hj), fun k hk => by rw [ha]; exact a1.2.1 k hk, by rw [hb]; exact a1.2.2⟩, fun z => h18 (a1' z)⟩, ?_, ?_, ?_, ?_, ?_, ?_, ?_, ?_, ?_, ?_⟩
  · unfold KC; rw [cd, eb, eb, eb]; exact a2
  · unfold KE; rw [ee, eb, eb, eb, eb]; exact a3
  · unfold KT; rw [et, eb, eb, eb]; exact a4
  · unfold KH; unfold gv; rw [ec, eb, eb, eb, eb, el, ha]; exact a5
  · unfold KS; rw [es, el, eb, eb]; exact a6
  · unfold KG; rw [eg, eb, eb, ha]; exact a7
  · intro γ b L hγ hI hL
    obtain ⟨L1, c1, c2⟩ := a8 γ b L hγ hI hL
    refine ⟨L1, ?_, by rw [cd]; exact c2⟩
    unfold hd gv; rw [ha]; exact eI _ _ c1
  · unfold KW; rw [ew, eb, eb]; exact a9
  · unfold KQ; rw [ep, eb, eb, eb]; exact a10
  · intro k k1 k2; rw [eb]; exact a11 k k1 k2
theorem KP.lx {t : Nat} {s u w : RS} (h : KP t s u) (hx : LX u w) : KP t s w := h.ext hx.1 (by rw [hx.2.1]) (fun z => by rw [hx.2.2.1 18 (by omega) (by omega)]; exact z) (fun j h1 _ _ _ => hx.2.2.1 j (by omega) (by omega))
theorem KP.i10 {t : Nat} {s u : RS} (h : KP t s u) (v : Int32) : KP t s (u.setI 10 v) := h.ext rfl rfl id (fun j _ _ _ _ => if_neg (by omega))
theorem KP.i11 {t : Nat} {s u : RS} (h : KP t s u) (v : Int32) : KP t s (u.setI 11 v) := h.ext rfl rfl id (fun j _ _ _ _ => if_neg (by omega))
theorem KP.i12 {t : Nat} {s u : RS} (h : KP t s u) (v : Int32) : KP t s (u.setI 12 v) := h.ext rfl rfl id (fun j _ _ _ _ => if_neg (by omega))
theorem KP.i14 {t : Nat} {s u : RS} (h : KP t s u) (v : Int32) : KP t s (u.setI 14 v) := h.ext rfl rfl id (fun j _ _ _ _ => if_neg (by omega))
theorem KP.i15 {t : Nat} {s u : RS} (h : KP t s u) (v : Int32) : KP t s (u.setI 15 v) := h.ext rfl rfl id (fun j _ _ _ _ => if_neg (by omega))
theorem KP.i16 {t : Nat} {s u : RS} (h : KP t s u) (v : Int32) : KP t s (u.setI 16 v) := h.ext rfl rfl id (fun j _ _ _ _ => if_neg (by omega))
theorem KP.i17 {t : Nat} {s u : RS} (h : KP t s u) (v : Int32) : KP t s (u.setI 17 v) := h.ext rfl rfl id (fun j _ _ _ _ => if_neg (by omega))
theorem KP.i19 {t : Nat} {s u : RS} (h : KP t s u) (v : Int32) : KP t s (u.setI 19 v) := h.ext rfl rfl id (fun j _ _ _ _ => if_neg (by omega))
theorem KP.i52 {t : Nat} {s u : RS} (h : KP t s u) (v : Int32) : KP t s (u.setI 52 v) := h.ext rfl rfl id (fun j _ _ _ _ => if_neg (by omega))
theorem KP.i53 {t : Nat} {s u : RS} (h : KP t s u) (v : Int32) : KP t s (u.setI 53 v) := h.ext rfl rfl id (fun j _ _ _ _ => if_neg (by omega))
theorem KP.i54 {t : Nat} {s u : RS} (h : KP t s u) (v : Int32) : KP t s (u.setI 54 v) := h.ext rfl rfl id (fun j _ _ _ _ => if_neg (by omega))
theorem KP.i55 {t : Nat} {s u : RS} (h : KP t s u) (v : Int32) : KP t s (u.setI 55 v) := h.ext rfl rfl id (fun j _ _ _ _ => if_neg (by omega))
theorem KP.i63 {t : Nat} {s u : RS} (h : KP t s u) (v : Int32) : KP t s (u.setI 63 v) := h.ext rfl rfl id (fun j _ _ _ _ => if_neg (by omega))
theorem KP.i75 {t : Nat} {s u : RS} (h : KP t s u) (v : Int32) : KP t s (u.setI 75 v) := h.ext rfl rfl id (fun j _ _ _ _ => if_neg (by omega))
theorem KP.i18 {t : Nat} {s u : RS} (h : KP t s u) (v : Int32) (hv : 0 ≤ v) : KP t s (u.setI 18 v) := h.ext rfl rfl (fun _ => hv) (fun j _ _ _ _ => if_neg (by omega))
theorem KP.a64 {t : Nat} {s u : RS} (h : KP t s u) (j : Nat) (v : Int32) (hj : t ≤ j) : KP t s (u.setA 64 j v) := ⟨⟨⟨h.1.1.1, fun k hk => (if_neg (by omega)).trans (h.1.1.2.1 k hk), h.1.1.2.2⟩, h.1.2⟩, h.2.1, h.2.2.1, h.2.2.2.1, h.2.2.2.2.1, h.2.2.2.2.2.1, h.2.2.2.2.2.2.1, fun γ b L x1 x2 x3 => by
    obtain ⟨L1, c1, c2⟩ := h.2.2.2.2.2.2.2.1 γ b L x1 x2 x3
    refine ⟨L1, ?_, c2⟩
    cases b
    · exact c1.of (fun y _ => ⟨rfl, rfl⟩)
    · exact c1.of (fun y _ => ⟨rfl, rfl⟩), h.2.2.2.2.2.2.2.2.1, h.2.2.2.2.2.2.2.2.2.1, fun k k1 k2 i hi => by
    have e := h.2.2.2.2.2.2.2.2.2.2 k k1 k2 i hi
    show (if k = 64 then upd (u.a 64) j v else u.a k) i = s.a k i
    by_cases c : k = 64
    · subst c
      rw [if_pos rfl]
      show (if i = j then v else u.a 64 i) = _
      rw [if_neg (by omega)]; exact e
    · rw [if_neg c]; exact e⟩
theorem KP.a65 {t : Nat} {s u : RS} (h : KP t s u) (j : Nat) (v : Int32) (hj : t ≤ j) : KP t s (u.setA 65 j v) := ⟨⟨⟨h.1.1.1, fun k hk => (if_neg (by omega)).trans (h.1.1.2.1 k hk), h.1.1.2.2⟩, h.1.2⟩, h.2.1, h.2.2.1, h.2.2.2.1, h.2.2.2.2.1, h.2.2.2.2.2.1, h.2.2.2.2.2.2.1, fun γ b L x1 x2 x3 => by
    obtain ⟨L1, c1, c2⟩ := h.2.2.2.2.2.2.2.1 γ b L x1 x2 x3
    refine ⟨L1, ?_, c2⟩
    cases b
    · exact c1.of (fun y _ => ⟨rfl, rfl⟩)
    · exact c1.of (fun y _ => ⟨rfl, rfl⟩), h.2.2.2.2.2.2.2.2.1, h.2.2.2.2.2.2.2.2.2.1, fun k k1 k2 i hi => by
    have e := h.2.2.2.2.2.2.2.2.2.2 k k1 k2 i hi
    show (if k = 65 then upd (u.a 65) j v else u.a k) i = s.a k i
    by_cases c : k = 65
    · subst c
      rw [if_pos rfl]
      show (if i = j then v else u.a 65 i) = _
      rw [if_neg (by omega)]; exact e
    · rw [if_neg c]; exact e⟩
theorem KP.a66 {t : Nat} {s u : RS} (h : KP t s u) (j : Nat) (v : Int32) (hj : t ≤ j) : KP t s (u.setA 66 j v) := ⟨⟨⟨h.1.1.1, fun k hk => (if_neg (by omega)).trans (h.1.1.2.1 k hk), h.1.1.2.2⟩, h.1.2⟩, h.2.1, h.2.2.1, h.2.2.2.1, h.2.2.2.2.1, h.2.2.2.2.2.1, h.2.2.2.2.2.2.1, fun γ b L x1 x2 x3 => by
    obtain ⟨L1, c1, c2⟩ := h.2.2.2.2.2.2.2.1 γ b L x1 x2 x3
    refine ⟨L1, ?_, c2⟩
    cases b
    · exact c1.of (fun y _ => ⟨rfl, rfl⟩)
    · exact c1.of (fun y _ => ⟨rfl, rfl⟩), h.2.2.2.2.2.2.2.2.1, h.2.2.2.2.2.2.2.2.2.1, fun k k1 k2 i hi => by
    have e := h.2.2.2.2.2.2.2.2.2.2 k k1 k2 i hi
    show (if k = 66 then upd (u.a 66) j v else u.a k) i = s.a k i
    by_cases c : k = 66
    · subst c
      rw [if_pos rfl]
      show (if i = j then v else u.a 66 i) = _
      rw [if_neg (by omega)]; exact e
    · rw [if_neg c]; exact e⟩
theorem KP.a67 {t : Nat} {s u : RS} (h : KP t s u) (j : Nat) (v : Int32) (hj : t ≤ j) : KP t s (u.setA 67 j v) := ⟨⟨⟨h.1.1.1, fun k hk => (if_neg (by omega)).trans (h.1.1.2.1 k hk), h.1.1.2.2⟩, h.1.2⟩, h.2.1, h.2.2.1, h.2.2.2.1, h.2.2.2.2.1, h.2.2.2.2.2.1, h.2.2.2.2.2.2.1, fun γ b L x1 x2 x3 => by
    obtain ⟨L1, c1, c2⟩ := h.2.2.2.2.2.2.2.1 γ b L x1 x2 x3
    refine ⟨L1, ?_, c2⟩
    cases b
    · exact c1.of (fun y _ => ⟨rfl, rfl⟩)
    · exact c1.of (fun y _ => ⟨rfl, rfl⟩), h.2.2.2.2.2.2.2.2.1, h.2.2.2.2.2.2.2.2.2.1, fun k k1 k2 i hi => by
    have e := h.2.2.2.2.2.2.2.2.2.2 k k1 k2 i hi
    show (if k = 67 then upd (u.a 67) j v else u.a k) i = s.a k i
    by_cases c : k = 67
    · subst c
      rw [if_pos rfl]
      show (if i = j then v else u.a 67 i) = _
      rw [if_neg (by omega)]; exact e
    · rw [if_neg c]; exact e⟩
theorem KP.a68 {t : Nat} {s u : RS} (h : KP t s u) (j : Nat) (v : Int32) (hj : t ≤ j) : KP t s (u.setA 68 j v) := ⟨⟨⟨h.1.1.1, fun k hk => (if_neg (by omega)).trans (h.1.1.2.1 k hk), h.1.1.2.2⟩, h.1.2⟩, h.2.1, h.2.2.1, h.2.2.2.1, h.2.2.2.2.1, h.2.2.2.2.2.1, h.2.2.2.2.2.2.1, fun γ b L x1 x2 x3 => by
    obtain ⟨L1, c1, c2⟩ := h.2.2.2.2.2.2.2.1 γ b L x1 x2 x3
    refine ⟨L1, ?_, c2⟩
    cases b
    · exact c1.of (fun y _ => ⟨rfl, rfl⟩)
    · exact c1.of (fun y _ => ⟨rfl, rfl⟩), h.2.2.2.2.2.2.2.2.1, h.2.2.2.2.2.2.2.2.2.1, fun k k1 k2 i hi => by
    have e := h.2.2.2.2.2.2.2.2.2.2 k k1 k2 i hi
    show (if k = 68 then upd (u.a 68) j v else u.a k) i = s.a k i
    by_cases c : k = 68
    · subst c
      rw [if_pos rfl]
      show (if i = j then v else u.a 68 i) = _
      rw [if_neg (by omega)]; exact e
    · rw [if_neg c]; exact e⟩
theorem KP.a69 {t : Nat} {s u : RS} (h : KP t s u) (j : Nat) (v : Int32) (hj : t ≤ j) : KP t s (u.setA 69 j v) := ⟨⟨⟨h.1.1.1, fun k hk => (if_neg (by omega)).trans (h.1.1.2.1 k hk), h.1.1.2.2⟩, h.1.2⟩, h.2.1, h.2.2.1, h.2.2.2.1, h.2.2.2.2.1, h.2.2.2.2.2.1, h.2.2.2.2.2.2.1, fun γ b L x1 x2 x3 => by
    obtain ⟨L1, c1, c2⟩ := h.2.2.2.2.2.2.2.1 γ b L x1 x2 x3
    refine ⟨L1, ?_, c2⟩
    cases b
    · exact c1.of (fun y _ => ⟨rfl, rfl⟩)
    · exact c1.of (fun y _ => ⟨rfl, rfl⟩), h.2.2.2.2.2.2.2.2.1, h.2.2.2.2.2.2.2.2.2.1, fun k k1 k2 i hi => by
    have e := h.2.2.2.2.2.2.2.2.2.2 k k1 k2 i hi
    show (if k = 69 then upd (u.a 69) j v else u.a k) i = s.a k i
    by_cases c : k = 69
    · subst c
      rw [if_pos rfl]
      show (if i = j then v else u.a 69 i) = _
      rw [if_neg (by omega)]; exact e
    · rw [if_neg c]; exact e⟩
theorem KP.a70 {t : Nat} {s u : RS} (h : KP t s u) (j : Nat) (v : Int32) (hj : t ≤ j) : KP t s (u.setA 70 j v) := ⟨⟨⟨h.1.1.1, fun k hk => (if_neg (by omega)).trans (h.1.1.2.1 k hk), h.1.1.2.2⟩, h.1.2⟩, h.2.1, h.2.2.1, h.2.2.2.1, h.2.2.2.2.1, h.2.2.2.2.2.1, h.2.2.2.2.2.2.1, fun γ b L x1 x2 x3 => by
    obtain ⟨L1, c1, c2⟩ := h.2.2.2.2.2.2.2.1 γ b L x1 x2 x3
    refine ⟨L1, ?_, c2⟩
    cases b
    · exact c1.of (fun y _ => ⟨rfl, rfl⟩)
    · exact c1.of (fun y _ => ⟨rfl, rfl⟩), h.2.2.2.2.2.2.2.2.1, h.2.2.2.2.2.2.2.2.2.1, fun k k1 k2 i hi => by
    have e := h.2.2.2.2.2.2.2.2.2.2 k k1 k2 i hi
    show (if k = 70 then upd (u.a 70) j v else u.a k) i = s.a k i
    by_cases c : k = 70
    · subst c
      rw [if_pos rfl]
      show (if i = j then v else u.a 70 i) = _
      rw [if_neg (by omega)]; exact e
    · rw [if_neg c]; exact e⟩
theorem KP.a71 {t : Nat} {s u : RS} (h : KP t s u) (j : Nat) (v : Int32) (hj : t ≤ j) : KP t s (u.setA 71 j v) := ⟨⟨⟨h.1.1.1, fun k hk => (if_neg (by omega)).trans (h.1.1.2.1 k hk), h.1.1.2.2⟩, h.1.2⟩, h.2.1, h.2.2.1, h.2.2.2.1, h.2.2.2.2.1, h.2.2.2.2.2.1, h.2.2.2.2.2.2.1, fun γ b L x1 x2 x3 => by
    obtain ⟨L1, c1, c2⟩ := h.2.2.2.2.2.2.2.1 γ b L x1 x2 x3
    refine ⟨L1, ?_, c2⟩
    cases b
    · exact c1.of (fun y _ => ⟨rfl, rfl⟩)
    · exact c1.of (fun y _ => ⟨rfl, rfl⟩), h.2.2.2.2.2.2.2.2.1, h.2.2.2.2.2.2.2.2.2.1, fun k k1 k2 i hi => by
    have e := h.2.2.2.2.2.2.2.2.2.2 k k1 k2 i hi
    show (if k = 71 then upd (u.a 71) j v else u.a k) i = s.a k i
    by_cases c : k = 71
    · subst c
      rw [if_pos rfl]
      show (if i = j then v else u.a 71 i) = _
      rw [if_neg (by omega)]; exact e
    · rw [if_neg c]; exact e⟩
theorem KP.a72 {t : Nat} {s u : RS} (h : KP t s u) (j : Nat) (v : Int32) (hj : t ≤ j) : KP t s (u.setA 72 j v) := ⟨⟨⟨h.1.1.1, fun k hk => (if_neg (by omega)).trans (h.1.1.2.1 k hk), h.1.1.2.2⟩, h.1.2⟩, h.2.1, h.2.2.1, h.2.2.2.1, h.2.2.2.2.1, h.2.2.2.2.2.1, h.2.2.2.2.2.2.1, fun γ b L x1 x2 x3 => by
    obtain ⟨L1, c1, c2⟩ := h.2.2.2.2.2.2.2.1 γ b L x1 x2 x3
    refine ⟨L1, ?_, c2⟩
    cases b
    · exact c1.of (fun y _ => ⟨rfl, rfl⟩)
    · exact c1.of (fun y _ => ⟨rfl, rfl⟩), h.2.2.2.2.2.2.2.2.1, h.2.2.2.2.2.2.2.2.2.1, fun k k1 k2 i hi => by
    have e := h.2.2.2.2.2.2.2.2.2.2 k k1 k2 i hi
    show (if k = 72 then upd (u.a 72) j v else u.a k) i = s.a k i
    by_cases c : k = 72
    · subst c
      rw [if_pos rfl]
      show (if i = j then v else u.a 72 i) = _
      rw [if_neg (by omega)]; exact e
    · rw [if_neg c]; exact e⟩
theorem KP.a73 {t : Nat} {s u : RS} (h : KP t s u) (j : Nat) (v : Int32) (hj : t ≤ j) : KP t s (u.setA 73 j v) := ⟨⟨⟨h.1.1.1, fun k hk => (if_neg (by omega)).trans (h.1.1.2.1 k hk), h.1.1.2.2⟩, h.1.2⟩, h.2.1, h.2.2.1, h.2.2.2.1, h.2.2.2.2.1, h.2.2.2.2.2.1, h.2.2.2.2.2.2.1, fun γ b L x1 x2 x3 => by
    obtain ⟨L1, c1, c2⟩ := h.2.2.2.2.2.2.2.1 γ b L x1 x2 x3
    refine ⟨L1, ?_, c2⟩
    cases b
    · exact c1.of (fun y _ => ⟨rfl, rfl⟩)
    · exact c1.of (fun y _ => ⟨rfl, rfl⟩), h.2.2.2.2.2.2.2.2.1, h.2.2.2.2.2.2.2.2.2.1, fun k k1 k2 i hi => by
    have e := h.2.2.2.2.2.2.2.2.2.2 k k1 k2 i hi
    show (if k = 73 then upd (u.a 73) j v else u.a k) i = s.a k i
    by_cases c : k = 73
    · subst c
      rw [if_pos rfl]
      show (if i = j then v else u.a 73 i) = _
      rw [if_neg (by omega)]; exact e
    · rw [if_neg c]; exact e⟩
