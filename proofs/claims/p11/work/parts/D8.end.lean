/-! reading: log, return, yield, throw -/
theorem setA_setA (s : RS) (k j : Nat) (v w : Int32) : (s.setA k j v).setA k j w = s.setA k j w := by
  have e : va_up (va_up s.a k (upd (s.a k) j v)) k (upd ((va_up s.a k (upd (s.a k) j v)) k) j w) = va_up s.a k (upd (s.a k) j w) := by
    funext m
    show (if m = k then upd (if k = k then upd (s.a k) j v else s.a k) j w else if m = k then upd (s.a k) j v else s.a m) = (if m = k then upd (s.a k) j w else s.a m)
    by_cases c : m = k
    · rw [if_pos c, if_pos c, if_pos rfl]
      funext i
      show (if i = j then w else if i = j then v else s.a k i) = (if i = j then w else s.a k i)
      by_cases d : i = j
      · rw [if_pos d, if_pos d]
      · rw [if_neg d, if_neg d, if_neg d]
    · rw [if_neg c, if_neg c, if_neg c]
  show (s.i, s.l, va_up (va_up s.a k (upd (s.a k) j v)) k (upd ((va_up s.a k (upd (s.a k) j v)) k) j w), s.b) = (s.i, s.l, va_up s.a k (upd (s.a k) j w), s.b)
  rw [e]
theorem setA_self (s : RS) (k j : Nat) : s.setA k j (s.a k j) = s := by
  have e : va_up s.a k (upd (s.a k) j (s.a k j)) = s.a := by
    funext m
    show (if m = k then upd (s.a k) j (s.a k j) else s.a m) = s.a m
    by_cases c : m = k
    · subst c
      rw [if_pos rfl]
      funext i
      show (if i = j then s.a m j else s.a m i) = s.a m i
      by_cases d : i = j
      · subst d; rw [if_pos rfl]
      · rw [if_neg d]
    · rw [if_neg c]
  show (s.i, s.l, va_up s.a k (upd (s.a k) j (s.a k j)), s.b) = s
  rw [e]
  rfl
theorem p_ial {N : Nat} {σ : RS} (h4 : goI σ ≤ 460) : ∀ (n : Nat) (x : Int32), 0 ≤ x.toInt → x.toInt ≤ 460 → 460 - x.toInt < n → ∃ p, f_X12_isInArms_2 N n σ x = some p ∧ p.2 = σ ∧ ((p.1 = 0 ∧ ∀ γ : Nat, x.toInt ≤ γ → (γ : Int) < goI σ → ¬ σ.a 44 γ = 3) ∨ p.1 = 1 ∧ ∃ γ : Nat, (γ : Int) < goI σ ∧ σ.a 44 γ = 3)
  | 0, x, h1, h2, h3 => by omega
  | n + 1, x, h1, h2, h3 => by
    show ∃ p, b_X12_isInArms_2 N (f_X12_isInArms_2 N n) σ x = some p ∧ _
    unfold b_X12_isInArms_2
    by_cases c : σ.i 43 ≤ x
    · rw [if_pos c]
      refine ⟨_, rfl, rfl, Or.inl ⟨rfl, fun γ g1 g2 => ?_⟩⟩
      have c : goI σ ≤ x.toInt := le_int c
      omega
    · rw [if_neg c]
      have c' : x.toInt < goI σ := by
        have : ¬ (σ.i 43).toInt ≤ x.toInt := fun z => c (Int32.le_iff_toInt_le.mpr z)
        show x.toInt < (σ.i 43).toInt
        omega
      have ci := clampI h1
      rw [if_pos (show ib x 460 from ⟨h1, by omega⟩)]
      by_cases d : σ.a 44 x.toNatClampNeg = 3
      · rw [if_pos d]
        exact ⟨_, rfl, rfl, Or.inr ⟨rfl, x.toNatClampNeg, by omega, d⟩⟩
      · rw [if_neg d]
        have e1 : (1 : Int32).toInt = 1 := by decide
        have ek : (x + 1).toInt = x.toInt + 1 := by rw [toInt_add] <;> rw [e1] <;> omega
        obtain ⟨p, ep, p1, p2⟩ := p_ial h4 n (x + 1) (by omega) (by omega) (by omega)
        refine ⟨p, ep, p1, ?_⟩
        rcases p2 with ⟨q1, q2⟩ | q
        · refine Or.inl ⟨q1, fun γ g1 g2 => ?_⟩
          by_cases e : γ = x.toNatClampNeg
          · subst e; exact d
          · exact q2 γ (by omega) g2
        · exact Or.inr q
theorem p_ia {N : Nat} (hN : 1000 ≤ N) {σ : RS} (h4 : goI σ ≤ 460) : ∃ p, f_X12_isInArms N σ = some p ∧ p.2 = σ ∧ ((p.1 = 0 ∧ ∀ γ : Nat, (γ : Int) < goI σ → ¬ σ.a 44 γ = 3) ∨ p.1 = 1 ∧ ∃ γ : Nat, (γ : Int) < goI σ ∧ σ.a 44 γ = 3) := by
  obtain ⟨p, ep, p1, p2⟩ := p_ial (N := N) h4 N 0 (by decide) (by decide) (by rw [z_t0]; omega)
  refine ⟨p, ep, p1, ?_⟩
  rcases p2 with ⟨q1, q2⟩ | q
  · exact Or.inl ⟨q1, fun γ g => q2 γ (by rw [z_t0]; omega) g⟩
  · exact Or.inr q
/-- the end of log, return, yield -/
def eRest (N : Nat) (x1 : Int32) (u : RS) : Option RS := (f_X12_need N u 59).bind fun p8 => if ib x1 1000 then (if (p8.2.a 66 ((x1 : Int32).toNatClampNeg)) = 412 then (f_X12_over N p8.2 1).bind fun p14 => some p14 else (f_X12_over N p8.2 0).bind fun p12 => some p12) else none
theorem p_e119 {N : Nat} (x1 x2 : Int32) (h2 : ib x2 3000) : ∀ (n : Nat) (σ : RS) (x : Int32), goI σ ≤ 460 → 0 ≤ x.toInt → x.toInt ≤ 460 → 460 - x.toInt < n → (∀ γ : Nat, (γ : Int) < x.toInt → σ.a 44 γ = 3 → (∀ δ : Nat, γ < δ → (δ : Int) < x.toInt → ¬ σ.a 44 δ = 3) → σ.a 23 x2.toNatClampNeg = σ.a 47 γ) → x.toInt ≤ goI σ → ∃ y, f_X12_ending_119 N n σ x1 x2 x = eRest N x1 (σ.setA 23 x2.toNatClampNeg y) ∧ ∀ γ : Nat, (γ : Int) < goI σ → σ.a 44 γ = 3 → NOARM σ γ → y = σ.a 47 γ
  | 0, σ, x, _, h1, h2', h3, _, _ => by omega
  | n + 1, σ, x, h4, h1, h2', h3, hi, hxg => by
    show ∃ y, b_X12_ending_119 N (f_X12_ending_119 N n) σ x1 x2 x = _ ∧ _
    unfold b_X12_ending_119
    by_cases c : σ.i 43 ≤ x
    · rw [if_pos c]
      have c : goI σ ≤ x.toInt := le_int c
      refine ⟨σ.a 23 x2.toNatClampNeg, by rw [setA_self]; rfl, fun γ g1 g2 g3 => hi γ (by omega) g2 (fun δ d1 d2 => g3 δ d1 (by omega))⟩
    · rw [if_neg c]
      have c' : x.toInt < goI σ := by
        have : ¬ (σ.i 43).toInt ≤ x.toInt := fun z => c (Int32.le_iff_toInt_le.mpr z)
        show x.toInt < (σ.i 43).toInt
        omega
      have ci := clampI h1
      rw [if_pos (show ib x 460 from ⟨h1, by omega⟩)]
      have e1 : (1 : Int32).toInt = 1 := by decide
      have ek : (x + 1).toInt = x.toInt + 1 := by rw [toInt_add] <;> rw [e1] <;> omega
      have go : ∀ y0 : Int32, (∀ γ : Nat, (γ : Int) < x.toInt + 1 → σ.a 44 γ = 3 → (∀ δ : Nat, γ < δ → (δ : Int) < x.toInt + 1 → ¬ σ.a 44 δ = 3) → y0 = σ.a 47 γ) → ∃ y, f_X12_ending_119 N n (σ.setA 23 x2.toNatClampNeg y0) x1 x2 (x + 1) = eRest N x1 (σ.setA 23 x2.toNatClampNeg y) ∧ ∀ γ : Nat, (γ : Int) < goI σ → σ.a 44 γ = 3 → NOARM σ γ → y = σ.a 47 γ := fun y0 hy0 => by
        obtain ⟨y, ey, hy⟩ := p_e119 x1 x2 h2 n (σ.setA 23 x2.toNatClampNeg y0) (x + 1) h4 (by omega) (by omega) (by omega) (fun γ g1 g2 g3 => by
          rw [setA_at]
          exact hy0 γ (by omega) g2 (fun δ d1 d2 => g3 δ d1 (by omega))) (by show (x + 1).toInt ≤ goI σ; omega)
        exact ⟨y, by rw [ey, setA_setA], hy⟩
      by_cases d : σ.a 44 x.toNatClampNeg = 3
      · rw [if_pos d, if_pos h2]
        refine go _ (fun γ g1 g2 g3 => ?_)
        by_cases e : γ = x.toNatClampNeg
        · subst e; rfl
        · exact absurd d (g3 x.toNatClampNeg (by omega) (by omega))
      · rw [if_neg d, if_pos h2]
        refine go _ (fun γ g1 g2 g3 => ?_)
        by_cases e : γ = x.toNatClampNeg
        · subst e; exact absurd g2 d
        · exact hi γ (by omega) g2 (fun δ d1 d2 => g3 δ d1 (by omega))
theorem ISCH.iy {u : RS} {k : Nat} {y : Int32} {h : Int} {L : List Nat} (hi : ISCH u h L) : ISCH (u.setA 23 k y) h L := hi.of (fun _ _ => ⟨rfl, rfl⟩)
theorem KP.iy {t : Nat} {s u : RS} {k : Nat} {y : Int32} (h : KP t s u) (hk : cdI s ≤ k) : KP t s (u.setA 23 k y) := by
  obtain ⟨⟨a1, a1'⟩, a2, a3, a4, a5, a6, a7, a8, a9, a10, a11⟩ := h
  refine ⟨⟨⟨a1.1, fun j hj => (if_neg (by omega)).trans (a1.2.1 j hj), a1.2.2⟩, a1'⟩, ⟨a2.1, a2.2.1, a2.2.2.1, fun j hj => (setA_ne (by omega)).trans (a2.2.2.2 j hj)⟩, a3, a4, a5, a6, a7, fun γ b L hγ hI hL => ?_, a9, a10, fun k9 k1 k2 j hj => (congrFun (if_neg (by omega)) j).trans (a11 k9 k1 k2 j hj)⟩
  obtain ⟨L1, c1, c2⟩ := a8 γ b L hγ hI hL
  exact ⟨L1, by cases b <;> exact c1.iy, c2⟩
theorem TAB.iy {u : RS} {k : Nat} {y : Int32} (h : TAB u) : TAB (u.setA 23 k y) := by
  refine ⟨⟨fun γ b hγ => ?_, DJ.of h.1.1 h.1.2.1 (Int.le_refl _) (fun γ b L _ h1 h2 => by cases b <;> exact h1.iy), h.1.2.2⟩, h.2⟩
  obtain ⟨L, l1, l2⟩ := h.1.1 γ b hγ
  exact ⟨L, by cases b <;> exact l1.iy, l2⟩
theorem MID.iy {t : Nat} {s u : RS} {x y : Int32} {k : Nat} (h : MID t s u x) (hk : cdI s ≤ k) (hT : ¬ 0 ≤ u.i 18 → TS s ((u.setA 23 k y).setI 75 x)) : MID t s (u.setA 23 k y) x := by
  obtain ⟨a1, a2, a3, a4, a5, a6, a7, a8, a9, a10, a11⟩ := h
  exact ⟨a1, a2, a3.iy, a4, a5.iy hk, a6, a7, a8, a9, a10, hT⟩
theorem MID.mm {t : Nat} {s u : RS} {y : Int32} (h : MM t s u) (hT : ¬ 0 ≤ u.i 18 → TS s (u.setI 75 y)) : MID t s u y := by
  have sn := h.snw
  obtain ⟨a1, a2, a3, a4, a5, a6, a7, a8⟩ := h
  refine ⟨a1.1, a1.2.2.1, a1.2.2.2.1, a2, a3, a4, sn, ?_, by omega, by omega, hT⟩
  unfold RAT1
  unfold RATE at a6
  omega
theorem MID.weak {t : Nat} {s u : RS} {x y : Int32} (h : MID t s u x) (hT : ¬ 0 ≤ u.i 18 → TS s (u.setI 75 y)) : MID t s u y := by
  obtain ⟨a1, a2, a3, a4, a5, a6, a7, a8, a9, a10, a11⟩ := h
  exact ⟨a1, a2, a3, a4, a5, a6, a7, a8, a9, a10, hT⟩
theorem SK.lxi {s : RS} {t : Nat} {K : Int32} (h : INV s) : LXI (SK s t K) := h.1
theorem SK.eI {s : RS} {t : Nat} {K : Int32} {j : Nat} (h1 : j ≠ 20) (h2 : j ≠ 53) : (SK s t K).i j = s.i j := (EM.i h1).trans (if_neg h2)
theorem SK.cd {s : RS} {t : Nat} {K : Int32} (h : INV s) : cdI (SK s t K) = cdI s + 1 := EM.cd (u := (s.setI 53 (s.i 53 + 1)).setA 64 t K) h.cd.1 h.cd.2.2
theorem SK.a21 {s : RS} {t : Nat} {K : Int32} : (SK s t K).a 21 (cdI s).toNat = 1 := by
  show (EM ((s.setI 53 (s.i 53 + 1)).setA 64 t K) 1 0).a 21 (cdI s).toNat = 1
  rw [EM.a21]
  exact if_pos rfl
/-- the step and a inner word are laid, the word is read -/
theorem STARTu {N : Nat} (hN : 1000 ≤ N) {s u : RS} {t : Nat} (y : Int32) (hI : INV s) (ht : tpI s = t) (hz : ¬ s.i 10 = 0) (ul : LXI u) (ui : ∀ j : Nat, j ≠ 20 → j ≠ 53 → u.i j = s.i j) (ut : TAB u) (uk : KP t s u) (uc : cdI u = cdI s + 1) : ∃ R, f_X12_next N (u.setA 66 t y) = some R ∧ MM t s R ∧ cdI R = cdI s + 1 ∧ R.a = (u.setA 66 t y).a ∧ (410 ≤ s.i 10 → fr s + 2 ≤ fr R) ∧ fr s + 1 ≤ fr R := by
  obtain ⟨R, eR, x1, x2, x3, x4⟩ := p_nx hN (show LXI (u.setA 66 t y) from ul)
  obtain ⟨r15, rc⟩ := x4 ((ui 15 (by decide) (by decide)).trans hI.2.2.1)
  obtain ⟨c1, c2, c3⟩ := rc (fun z => hz ((ui 10 (by decide) (by decide)).symm.trans z))
  have fu : fr (u.setA 66 t y) = fr s := by show fr u = fr s; unfold fr; rw [ui 11 (by decide) (by decide)]
  have u10 : (u.setA 66 t y).i 10 = s.i 10 := ui 10 (by decide) (by decide)
  have hf := hI.1.f0
  have n12 := hI.tk
  have tk : tkI R = tkI s + 1 := tk_add (u := s) (c1.trans (congrArg (· + 1) (ui 17 (by decide) (by decide)))) ⟨n12.1, by omega⟩
  have kU : KP t s (u.setA 66 t y) := uk.loc t y (by omega) (by omega) (Nat.le_refl _)
  have tU : TAB (u.setA 66 t y) := ut.tbl (TBL.loc _ t y (by omega) (by omega)) (fun γ hγ => (ut.2.2.2.2.2.2.1 γ hγ).2) ut.2.2.2.2.2.2.2.2.2
  have kR : KP t s R := kU.lx x1
  have tR : TAB R := tU.lx x1
  have e := x1.tbl
  have ecd : cdI R = cdI s + 1 := e.cd.trans uc
  have rt : RATE s R := by
    have e2 : enI R = enI s := by rw [e.en]; show enI u = enI s; unfold enI; rw [ui 24 (by decide) (by decide)]
    have e3 : trI R = trI s := by rw [e.tt]; show trI u = trI s; unfold trI; rw [ui 29 (by decide) (by decide)]
    have e4 : caI R = caI s := by rw [e.ca]; show caI u = caI s; unfold caI; rw [ui 33 (by decide) (by decide)]
    have e5 : slI R = slI s := by rw [e.sl]; show slI u = slI s; unfold slI; rw [ui 42 (by decide) (by decide)]
    have e6 : peI R = peI s := by rw [e.pe]; show peI u = peI s; unfold peI; rw [ui 59 (by decide) (by decide)]
    unfold RATE
    omega
  have ss : SAME s R := SAME.tr (show SAME s (u.setA 66 t y) from ⟨ui 19 (by decide) (by decide), ui 43 (by decide) (by decide), ui 52 (by decide) (by decide), ui 56 (by decide) (by decide)⟩) (x1.same x2)
  have e38 : R.i 38 = s.i 38 := x1.i38.trans (ui 38 (by decide) (by decide))
  have tp : tpI R = t := x1.tp.trans ((congrArg Int32.toInt (ui 63 (by decide) (by decide))).trans ht)
  exact ⟨R, eR, ⟨hI.mkS kR x1.2.2.2.1 r15 tR ss (SNW.eq e38 kR.2.2.2.2.2.1.2.1) rt (by omega) (by omega), tp, kR, ss, e38, rt, by omega, by omega⟩, ecd, x1.1, fun q => by have := c3 (Or.inl (by rw [u10]; exact q)); omega, by omega⟩
