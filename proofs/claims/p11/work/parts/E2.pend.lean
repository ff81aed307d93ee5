/-! reading: jumps that wait -/
theorem KP.flag {t : Nat} {s q : RS} {γ : Nat} {b : Bool} (h : KP t s q) : KP t s (q.setA (fgB b) γ 1) := by
  obtain ⟨⟨a1, a1'⟩, a2, a3, a4, a5, a6, a7, a8, a9, a10, a11⟩ := h
  have fl : ∀ (k δ : Nat), q.a k δ = 1 → (q.setA (fgB b) γ 1).a k δ = 1 := fun k δ e => by
    by_cases c1 : δ = γ
    · by_cases c2 : k = fgB b
      · subst c1; subst c2; exact setA_at
      · rw [setA_nk c2]; exact e
    · rw [setA_ne c1]; exact e
  have nk : ∀ k : Nat, k ≠ 50 → k ≠ 51 → (q.setA (fgB b) γ 1).a k = q.a k := fun k e1 e2 => setA_nk (by rcases fg_cases b with e | e <;> rw [e] <;> assumption)
  have eb : ∀ (k : Nat) (m : Int), k ≠ 50 → k ≠ 51 → bel k m s (q.setA (fgB b) γ 1) = bel k m s q := fun k m e1 e2 => by unfold bel; rw [nk k e1 e2]
  have eg : ∀ (k i : Nat), k ≠ 50 → k ≠ 51 → gv (q.setA (fgB b) γ 1) k i = gv q k i := fun k i e1 e2 => by unfold gv; rw [nk k e1 e2]
  refine ⟨⟨⟨a1.1, fun k hk => (nk k (by omega) (by omega)).trans (a1.2.1 k hk), a1.2.2⟩, a1'⟩, ?_, ?_, ?_, ?_, ?_, ?_, fun γ' b' L hγ hI hL => ?_, ?_, ?_, fun k k1 k2 => ?_⟩
  · unfold KC; rw [eb _ _ (by decide) (by decide), eb _ _ (by decide) (by decide), eb _ _ (by decide) (by decide)]; exact a2
  · unfold KE; rw [eb _ _ (by decide) (by decide), eb _ _ (by decide) (by decide), eb _ _ (by decide) (by decide), eb _ _ (by decide) (by decide)]; exact a3
  · unfold KT; rw [eb _ _ (by decide) (by decide), eb _ _ (by decide) (by decide), eb _ _ (by decide) (by decide)]; exact a4
  · unfold KH; unfold gv; rw [eb _ _ (by decide) (by decide), eb _ _ (by decide) (by decide), eb _ _ (by decide) (by decide), eb _ _ (by decide) (by decide), nk 36 (by decide) (by decide)]; exact a5
  · unfold KS; rw [eb _ _ (by decide) (by decide), eb _ _ (by decide) (by decide)]; exact a6
  · unfold KG; rw [eb _ _ (by decide) (by decide), eb _ _ (by decide) (by decide), nk 46 (by decide) (by decide)]
    exact ⟨a7.1, a7.2.1, a7.2.2.1, fun δ d1 d2 => fl 50 δ (a7.2.2.2.1 δ d1 d2), fun δ d1 d2 => fl 51 δ (a7.2.2.2.2.1 δ d1 d2), a7.2.2.2.2.2⟩
  · obtain ⟨L1, c1, c2⟩ := a8 γ' b' L hγ hI hL
    refine ⟨L1, ?_, c2⟩
    have e : hd (q.setA (fgB b) γ 1) b' γ' = hd q b' γ' := eg _ _ (by rcases bk_cases b' with e | e <;> rw [e] <;> decide) (by rcases bk_cases b' with e | e <;> rw [e] <;> decide)
    rw [e]
    exact c1.of (fun y _ => ⟨by rw [nk 21 (by decide) (by decide)], by rw [nk 22 (by decide) (by decide)]⟩)
  · unfold KW; rw [eb _ _ (by decide) (by decide), eb _ _ (by decide) (by decide)]; exact a9
  · unfold KQ; rw [eb _ _ (by decide) (by decide), eb _ _ (by decide) (by decide), eb _ _ (by decide) (by decide)]; exact a10
  · rw [eb k _ (by omega) (by omega)]; exact a11 k k1 k2
theorem TAB.flag {q : RS} {γ : Nat} {b : Bool} (h : TAB q) : TAB (q.setA (fgB b) γ 1) := by
  cases b
  · refine ⟨⟨fun γ' b' hγ => ?_, DJ.of h.1.1 h.1.2.1 (Int.le_refl _) (fun γ' b' L _ h1 h2 => by cases b' <;> exact h1.of (fun _ _ => ⟨rfl, rfl⟩)), h.1.2.2⟩, h.2⟩
    obtain ⟨L, l1, l2⟩ := h.1.1 γ' b' hγ
    exact ⟨L, by cases b' <;> exact l1.of (fun _ _ => ⟨rfl, rfl⟩), l2⟩
  · refine ⟨⟨fun γ' b' hγ => ?_, DJ.of h.1.1 h.1.2.1 (Int.le_refl _) (fun γ' b' L _ h1 h2 => by cases b' <;> exact h1.of (fun _ _ => ⟨rfl, rfl⟩)), h.1.2.2⟩, h.2⟩
    obtain ⟨L, l1, l2⟩ := h.1.1 γ' b' hγ
    exact ⟨L, by cases b' <;> exact l1.of (fun _ _ => ⟨rfl, rfl⟩), l2⟩
theorem e_goes {N : Nat} {q : RS} {x4 : Int32} {γ : Nat} {b : Bool} (hx : x4.toInt = γ) (h4 : (γ : Int) < 460) : f_X12_goes N q x4 (b01 b) = some (q.setA (fgB b) γ 1) := by
  have en : x4.toNatClampNeg = γ := by
    show x4.toInt.toNat = γ
    rw [hx]; exact Int.toNat_natCast _
  unfold f_X12_goes
  rw [en]
  cases b
  · show (if (0 : Int32) = 0 then (if ib x4 460 then some (q.setA 51 γ 1) else none) else if ib x4 460 then some (q.setA 50 γ 1) else none) = some (q.setA 51 γ 1)
    rw [if_pos rfl, if_pos (show ib x4 460 from ⟨by omega, by omega⟩)]
  · show (if (1 : Int32) = 0 then (if ib x4 460 then some (q.setA 51 γ 1) else none) else if ib x4 460 then some (q.setA 50 γ 1) else none) = some (q.setA 50 γ 1)
    rw [if_neg (by decide), if_pos (show ib x4 460 from ⟨by omega, by omega⟩)]
def PD (q : RS) (x y z : Int32) : RS := RS.setI (RS.setA (RS.setA (RS.setA q 60 ((q.i 59).toNatClampNeg) x) 61 ((q.i 59).toNatClampNeg) y) 62 ((q.i 59).toNatClampNeg) z) 59 ((q.i 59) + 1)
theorem PD.eA {q : RS} {x y z : Int32} {k : Nat} (h1 : k ≠ 60) (h2 : k ≠ 61) (h3 : k ≠ 62) : (PD q x y z).a k = q.a k := (if_neg h3).trans ((if_neg h2).trans (if_neg h1))
theorem PD.lo {q : RS} {x y z : Int32} {k j : Nat} (hj : j ≠ (q.i 59).toNatClampNeg) : (PD q x y z).a k j = q.a k j := (setA_ne hj).trans ((setA_ne hj).trans (setA_ne hj))
theorem PD.a62 {q : RS} {x y z : Int32} : (PD q x y z).a 62 (q.i 59).toNatClampNeg = z := setA_at
theorem PD.a61 {q : RS} {x y z : Int32} : (PD q x y z).a 61 (q.i 59).toNatClampNeg = y := (congrFun (setA_nk (by decide)) _).trans setA_at
theorem PD.a60 {q : RS} {x y z : Int32} : (PD q x y z).a 60 (q.i 59).toNatClampNeg = x := (congrFun (setA_nk (by decide)) _).trans ((congrFun (setA_nk (by decide)) _).trans setA_at)
theorem PD.pe {q : RS} {x y z : Int32} (h0 : 0 ≤ peI q) (h3 : peI q < 300) : peI (PD q x y z) = peI q + 1 := by
  have e1 : (1 : Int32).toInt = 1 := by decide
  have h0 : 0 ≤ (q.i 59).toInt := h0
  have h3 : (q.i 59).toInt < 300 := h3
  show (q.i 59 + 1).toInt = (q.i 59).toInt + 1
  rw [toInt_add] <;> rw [e1] <;> omega
theorem peN {q : RS} (h : 0 ≤ peI q) : (((q.i 59).toNatClampNeg : Nat) : Int) = peI q := Int.toNat_of_nonneg h
theorem KP.pd {t : Nat} {s q : RS} {x y z : Int32} (h : KP t s q) (h0 : 0 ≤ peI q) (h3 : peI q < 300) : KP t s (PD q x y z) := by
  obtain ⟨⟨a1, a1'⟩, a2, a3, a4, a5, a6, a7, a8, a9, a10, a11⟩ := h
  have pn := peN h0
  have e := PD.pe (x := x) (y := y) (z := z) h0 h3
  have q1 := a10.1
  refine ⟨⟨⟨fun j hj => (if_neg (by omega)).trans (a1.1 j hj), fun k hk => (PD.eA (by omega) (by omega) (by omega)).trans (a1.2.1 k hk), a1.2.2⟩, a1'⟩, a2, a3, a4, a5, a6, a7, fun γ b L x1 x2 x3 => ?_, a9, ⟨by omega, fun j hj => (PD.lo (by omega)).trans (a10.2.1 j hj), fun j hj => (PD.lo (by omega)).trans (a10.2.2.1 j hj), fun j hj => (PD.lo (by omega)).trans (a10.2.2.2 j hj)⟩, fun k k1 k2 j hj => (congrFun (PD.eA (by omega) (by omega) (by omega)) j).trans (a11 k k1 k2 j hj)⟩
  obtain ⟨L1, c1, c2⟩ := a8 γ b L x1 x2 x3
  refine ⟨L1, ?_, c2⟩
  cases b
  · exact c1.of (fun _ _ => ⟨rfl, rfl⟩)
  · exact c1.of (fun _ _ => ⟨rfl, rfl⟩)
theorem TAB.pd {q : RS} {x y z : Int32} (h : TAB q) (h0 : 0 ≤ peI q) (h3 : peI q < 300) (hx : 0 ≤ x.toInt ∧ x.toInt < 460) (hy : y = 0 ∨ y = 1) (hw : 0 < waI q) (hz : z.toInt = gv q 57 (waI q - 1).toNat) (hxw : x.toInt < gv q 58 (waI q - 1).toNat) : TAB (PD q x y z) := by
  obtain ⟨⟨a0, b1, b2, b3, b4⟩, a1, a2, a3, a4, a5, a6, a7, a8, a9⟩ := h
  have pn := peN h0
  have e := PD.pe (x := x) (y := y) (z := z) h0 h3
  have is : ∀ (γ : Nat) (b : Bool) (L : List Nat), ISCH q (hd q b γ) L → ISCH (PD q x y z) (hd (PD q x y z) b γ) L := fun γ b L hI => by
    cases b
    · exact hI.of (fun _ _ => ⟨rfl, rfl⟩)
    · exact hI.of (fun _ _ => ⟨rfl, rfl⟩)
  have ew : ((waI q - 1).toNat : Int) = waI q - 1 := Int.toNat_of_nonneg (by omega)
  have t8 := a8 (waI q - 1).toNat (by omega)
  refine ⟨⟨fun γ b hγ => ?_, DJ.of a0 b1 (Int.le_refl _) (fun γ b L _ h1 _ => is γ b L h1), fun p hp => ?_, b3, fun p w p1 p2 p3 => ?_⟩, a1, a2, a3, a4, a5, a6, fun k hk => ?_, a8, a9⟩
  · obtain ⟨L, l1, l2⟩ := a0 γ b hγ
    exact ⟨L, is γ b L l1, l2⟩
  · by_cases c : p = (q.i 59).toNatClampNeg
    · subst c
      unfold gv
      rw [PD.a62, hz]
      exact t8.2.1
    · have := b2 p (by omega)
      unfold gv at this ⊢
      rw [PD.lo c]
      exact this
  · have p2 : (w : Int) < waI q := p2
    by_cases c : p = (q.i 59).toNatClampNeg
    · subst c
      have e62 : gv (PD q x y z) 62 (q.i 59).toNatClampNeg = gv q 57 (waI q - 1).toNat := by unfold gv; rw [PD.a62]; exact hz
      have e60 : gv (PD q x y z) 60 (q.i 59).toNatClampNeg = x.toInt := by unfold gv; rw [PD.a60]
      have p3 : gv (PD q x y z) 62 (q.i 59).toNatClampNeg = gv q 57 w := p3
      rw [e60]
      show x.toInt < gv q 58 w
      have : w = (waI q - 1).toNat := by
        by_cases c2 : w < (waI q - 1).toNat
        · have := b3 w (waI q - 1).toNat c2 (by omega); omega
        · omega
      rw [this]; exact hxw
    · have e62 : gv (PD q x y z) 62 p = gv q 62 p := by unfold gv; rw [PD.lo c]
      have e60 : gv (PD q x y z) 60 p = gv q 60 p := by unfold gv; rw [PD.lo c]
      rw [e62] at p3
      rw [e60]
      exact b4 p w (by omega) p2 p3
  · by_cases c : k = (q.i 59).toNatClampNeg
    · subst c
      unfold gv
      rw [PD.a60, PD.a61]
      exact ⟨hx.1, hx.2, hy⟩
    · have := a7 k (by omega)
      unfold gv at this ⊢
      rw [PD.lo c, PD.lo c]
      exact this
theorem p_pd {N t : Nat} {s q : RS} {x4 : Int32} {γ : Nat} {b : Bool} (hk : KP t s q) (ht : TAB q) (hx : x4.toInt = γ) (h4 : (γ : Int) < 460) (w0 : 0 ≤ waI q) (w4 : waI q ≤ 40) (p0 : 0 ≤ peI q) (p3 : peI q < 300) : ∃ q', f_X12_pend N q x4 (b01 b) = some q' ∧ (∀ j : Nat, j ≠ 59 → q'.i j = q.i j) ∧ (∀ k : Nat, k ≠ 50 → k ≠ 51 → k ≠ 60 → k ≠ 61 → k ≠ 62 → q'.a k = q.a k) ∧ q'.b = q.b ∧ peI q ≤ peI q' ∧ peI q' ≤ peI q + 1 ∧ KP t s q' ∧ TAB q' ∧ ARV q' γ b := by
  unfold f_X12_pend
  have fl : ∃ q', f_X12_pend_22 N q x4 (b01 b) = some q' ∧ (∀ j : Nat, j ≠ 59 → q'.i j = q.i j) ∧ (∀ k : Nat, k ≠ 50 → k ≠ 51 → k ≠ 60 → k ≠ 61 → k ≠ 62 → q'.a k = q.a k) ∧ q'.b = q.b ∧ peI q ≤ peI q' ∧ peI q' ≤ peI q + 1 ∧ KP t s q' ∧ TAB q' ∧ ARV q' γ b := by
    unfold f_X12_pend_22
    rw [e_goes hx h4]
    refine ⟨q.setA (fgB b) γ 1, rfl, fun _ _ => rfl, fun k e1 e2 _ _ _ => setA_nk (by rcases fg_cases b with e | e <;> rw [e] <;> assumption), rfl, Int.le_refl _, by show peI q ≤ peI q + 1; omega, hk.flag, ht.flag, Or.inl setA_at⟩
  by_cases c : q.i 56 = 0
  · rw [if_pos c]; exact fl
  rw [if_neg c]
  have wp : 0 < waI q := by
    have : ¬ (q.i 56).toInt = 0 := fun z => c (Int32.toInt_inj.mp (by rw [z, z_t0]))
    have w0 : 0 ≤ (q.i 56).toInt := w0
    show 0 < (q.i 56).toInt
    omega
  have e1 : (1 : Int32).toInt = 1 := by decide
  have w4' : (q.i 56).toInt ≤ 40 := w4
  have wp' : 0 < (q.i 56).toInt := wp
  have ew : (q.i 56 - 1).toInt = waI q - 1 := by
    show _ = (q.i 56).toInt - 1
    rw [toInt_sub] <;> rw [e1] <;> omega
  have en : (q.i 56 - 1).toNatClampNeg = (waI q - 1).toNat := by
    show (q.i 56 - 1).toInt.toNat = _
    rw [ew]
  rw [if_pos (show ib (q.i 56 - 1) 40 from ⟨by omega, by omega⟩), en]
  by_cases c2 : x4 < q.a 58 (waI q - 1).toNat
  · have hb : b01 b = 0 ∨ b01 b = 1 := by cases b; exact Or.inl rfl; exact Or.inr rfl
    have hn : vp_nar .boolean (b01 b) = b01 b := by cases b; exact nar0; exact nar1
    rw [if_pos c2, if_pos (show ib (q.i 59) 300 from ⟨p0, p3⟩), hn]
    have c2 := lt_int c2
    have pe := PD.pe (x := x4) (y := b01 b) (z := q.a 57 (waI q - 1).toNat) p0 p3
    refine ⟨PD q x4 (b01 b) (q.a 57 (waI q - 1).toNat), rfl, fun j hj => if_neg hj, fun k _ _ e3 e4 e5 => PD.eA e3 e4 e5, rfl, by omega, by omega, hk.pd p0 p3, ht.pd p0 p3 ⟨by omega, by omega⟩ hb wp rfl c2, Or.inr ⟨(q.i 59).toNatClampNeg, ?_, ?_, ?_, wp, ?_⟩⟩
    · rw [peN p0]; omega
    · unfold gv; rw [PD.a60]; exact hx
    · exact PD.a61
    · show ((PD q x4 (b01 b) (q.a 57 (waI q - 1).toNat)).a 62 (q.i 59).toNatClampNeg).toInt = (q.a 57 (waI q - 1).toNat).toInt
      rw [PD.a62]
  · rw [if_neg c2]; exact fl
