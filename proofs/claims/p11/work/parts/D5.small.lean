/-! reading: small statements -/
theorem NDO {N : Nat} (hN : 1000 ≤ N) {u : RS} (hI : INV u) (x : Int32) (hx : ¬ x = 0) : ∃ p, f_X12_need N u x = some p ∧ LX u p.2 ∧ (¬ p.2.i 15 = 0 ∨ p.2.i 15 = 0 ∧ u.i 10 = x ∧ INV p.2 ∧ p.2.i 19 = u.i 19 ∧ fr u + 1 ≤ fr p.2 ∧ tkI p.2 = tkI u + 1) := by
  obtain ⟨p, ep, h1, h2, h3, h4⟩ := p_nd hN hI.1 x hx
  refine ⟨p, ep, h1, ?_⟩
  rcases h3 with ⟨a, b⟩ | ⟨a, b⟩
  · exact Or.inl b
  · obtain ⟨c1, c2, c3, c4⟩ := h4 b
    have n := hI.tk
    have hf := hI.1.f0
    have tk := tk_add c2 ⟨n.1, by omega⟩
    exact Or.inr ⟨b, c1, hI.tbl h1.tbl h1.2.2.2.1 b h2 (h1.2.2.1 52 (by omega) (by omega)) (by rw [h1.2.2.1 75 (by omega) (by omega)]; exact hI.r) (by omega) ⟨by omega, by omega⟩, h2, c3, tk⟩
theorem TBL.b74 (u : RS) (j : Nat) (v : Int64) : TBL u (u.setB 74 j v) := ⟨fun _ _ => rfl, rfl, fun _ _ _ _ _ => rfl⟩
theorem TBL.i54 (u : RS) (v : Int32) : TBL u (u.setI 54 v) := ⟨fun _ _ => rfl, rfl, fun _ _ _ _ _ => if_neg (by omega)⟩
theorem TLG {N : Nat} (hN : 1000 ≤ N) {R : RS} {t : Nat} (hI : INV R) {x1 : Int32} (hx : ib x1 1000) : ∃ p, f_X12_telling N R x1 = some p ∧ (p.1 = 0 ∧ ¬ p.2.i 15 = 0 ∧ LX R p.2 ∨ p.1 = 1 ∧ INV p.2 ∧ tpI p.2 = tpI R ∧ KP t R p.2 ∧ TBL R p.2 ∧ SAME R p.2 ∧ fr R + 1 ≤ fr p.2 ∧ tkI p.2 = tkI R + 1 ∧ p.2.a = R.a) := by
  unfold f_X12_telling
  by_cases c : R.i 10 = 2
  · rw [if_pos c, can1 hI.2.2.1 (by rw [c]; decide)]
    have nse := hI.2.2.2.2.2.2.2.2.2.1
    have nsl := hI.2.2.2.2.2.2.2.2.2.2.1
    have hf := hI.1.f0
    obtain ⟨⟨p1, p2⟩, ep, e2, e3⟩ := p_sa hN R.l nse.1 (by omega)
    have e2 : p2 = R := e2
    subst e2
    show ∃ p, (if (1 : Int32) = 0 then f_X12_telling_20 N p2 else f_X12_telling_22 N p2 x1) = some p ∧ _
    rw [if_neg (by decide)]
    unfold f_X12_telling_22
    rw [ep]
    show ∃ p, (if p1 < 0 then (if ib x1 1000 then (f_X12_next N (RS.setB (RS.setI p2 54 ((p2.i 54) + 1)) 74 ((x1 : Int32).toNatClampNeg) p2.l)).bind fun p9 => some (1, p9) else none) else (f_X12_fail N p2 4 (p2.i 11)).bind fun p11 => some (0, p11)) = some p ∧ _
    by_cases cn : p1 < 0
    · rw [if_pos cn, if_pos hx]
      have i2 : INV (RS.setB (RS.setI p2 54 ((p2.i 54) + 1)) 74 ((x1 : Int32).toNatClampNeg) p2.l) := hI.tbl ((TBL.i54 p2 _).tr (TBL.b74 _ _ _)) hI.1 hI.2.2.1 rfl rfl hI.r (Int.le_refl _) hI.tk
      obtain ⟨S, eS, x1', x2, x3, x4, x5, x6, x7⟩ := NX hN i2 (show ¬ p2.i 10 = 0 by rw [c]; decide)
      rw [eS]
      refine ⟨(1, S), rfl, Or.inr ⟨rfl, x4, x1'.tp, ?_, ((TBL.i54 p2 _).tr (TBL.b74 _ _ _)).tr x1'.tbl, x1'.same x3, x5, x6, x1'.1⟩⟩
      exact (((KP.rf t p2).i54 _).ext (w := RS.setB (RS.setI p2 54 ((p2.i 54) + 1)) 74 ((x1 : Int32).toNatClampNeg) p2.l) rfl rfl id (fun _ _ _ _ _ => rfl)).lx x1'
    · rw [if_neg cn]
      obtain ⟨S, eS, r1, r2, r3⟩ := p_fl (N := N) hI.1 4 (p2.i 11) (by decide)
      rw [eS]
      exact ⟨(0, S), rfl, Or.inl ⟨rfl, r2, r1⟩⟩
  · rw [if_neg c]
    obtain ⟨S, eS, h1, h2⟩ := can0 (N := N) hI.1 hI.2.2.1
    rw [eS]
    exact ⟨(0, S), rfl, Or.inl ⟨rfl, h2, h1⟩⟩
def SE (u : RS) (n : Int64) (c : Int32) : RS := RS.setI (RS.setI (RS.setA (RS.setA (RS.setB u 39 ((u.i 38).toNatClampNeg) n) 40 ((u.i 38).toNatClampNeg) (u.i 42)) 41 ((u.i 38).toNatClampNeg) c) 38 ((u.i 38) + 1)) 42 ((u.i 42) + 1)
theorem nar0 : vp_nar .boolean 0 = 0 := rfl
theorem nar1 : vp_nar .boolean 1 = 1 := rfl
theorem p_se {N : Nat} {u : RS} (n : Int64) {c : Int32} (hc : c = 0 ∨ c = 1) (h0 : 0 ≤ seI u) (h4 : seI u < 460) : f_X12_see N u n c = some (u.i 42, SE u n c) := by
  unfold f_X12_see
  rw [if_pos (show ib (u.i 38) 460 from ⟨h0, h4⟩), Int32.add_sub_cancel]
  rcases hc with rfl | rfl
  · rw [nar0]; rfl
  · rw [nar1]; rfl
theorem SE.eI {u : RS} {n : Int64} {c : Int32} {j : Nat} (h1 : j ≠ 38) (h2 : j ≠ 42) : (SE u n c).i j = u.i j := (if_neg h2).trans (if_neg h1)
theorem SE.eA {u : RS} {n : Int64} {c : Int32} {k : Nat} (h1 : k ≠ 40) (h2 : k ≠ 41) : (SE u n c).a k = u.a k := (if_neg h2).trans (if_neg h1)
theorem SE.lo {u : RS} {n : Int64} {c : Int32} {k j : Nat} (hj : j ≠ (u.i 38).toNatClampNeg) : (SE u n c).a k j = u.a k j := (setA_ne hj).trans (setA_ne hj)
theorem SE.a41 {u : RS} {n : Int64} {c : Int32} : (SE u n c).a 41 (u.i 38).toNatClampNeg = c := setA_at
theorem SE.a40 {u : RS} {n : Int64} {c : Int32} : (SE u n c).a 40 (u.i 38).toNatClampNeg = u.i 42 := (congrFun (setA_nk (by decide)) _).trans setA_at
theorem SE.eSE {u : RS} {n : Int64} {c : Int32} (h0 : 0 ≤ seI u) (h4 : seI u < 460) : seI (SE u n c) = seI u + 1 := by
  have e1 : (1 : Int32).toInt = 1 := by decide
  have h0 : 0 ≤ (u.i 38).toInt := h0
  have h4 : (u.i 38).toInt < 460 := h4
  show (u.i 38 + 1).toInt = (u.i 38).toInt + 1
  rw [toInt_add] <;> rw [e1] <;> omega
theorem SE.eSL {u : RS} {n : Int64} {c : Int32} (h0 : 0 ≤ slI u) (h4 : slI u < 460) : slI (SE u n c) = slI u + 1 := by
  have e1 : (1 : Int32).toInt = 1 := by decide
  have h0 : 0 ≤ (u.i 42).toInt := h0
  have h4 : (u.i 42).toInt < 460 := h4
  show (u.i 42 + 1).toInt = (u.i 42).toInt + 1
  rw [toInt_add] <;> rw [e1] <;> omega
theorem seN {u : RS} (h : 0 ≤ seI u) : (((u.i 38).toNatClampNeg : Nat) : Int) = seI u := Int.toNat_of_nonneg h
theorem KP.se {t : Nat} {s u : RS} {n : Int64} {c : Int32} (h : KP t s u) (h0 : 0 ≤ seI s) (h4 : seI u < 460) (g0 : 0 ≤ slI u) (g4 : slI u < 460) : KP t s (SE u n c) := by
  obtain ⟨⟨a1, a1'⟩, a2, a3, a4, a5, a6, a7, a8, a9, a10, a11⟩ := h
  have q := a6.1
  have e1 := SE.eSE (u := u) (n := n) (c := c) (by omega) h4
  have e2 := SE.eSL (u := u) (n := n) (c := c) g0 g4
  have nn := seN (u := u) (by omega)
  refine ⟨⟨⟨fun j hj => (SE.eI (by omega) (by omega)).trans (a1.1 j hj), fun k hk => (SE.eA (by omega) (by omega)).trans (a1.2.1 k hk), a1.2.2⟩, a1'⟩, a2, a3, a4, ⟨a5.1, a5.2.1, a5.2.2.1, a5.2.2.2.1, a5.2.2.2.2.1, fun j h1 h2 => ?_⟩, ⟨by omega, by have := a6.2.1; omega, fun j hj => (SE.lo (by omega)).trans (a6.2.2.1 j hj), fun j hj => (SE.lo (by omega)).trans (a6.2.2.2 j hj)⟩, a7, fun γ b L x1 x2 x3 => ?_, a9, a10, fun k k1 k2 j hj => (congrFun (SE.eA (by omega) (by omega)) j).trans (a11 k k1 k2 j hj)⟩
  · have := a5.2.2.2.2.2 j h1 h2
    rw [e2]
    exact ⟨this.1, by have := this.2; show gv u 36 j < slI u + 1; omega⟩
  · obtain ⟨L1, c1, c2⟩ := a8 γ b L x1 x2 x3
    refine ⟨L1, ?_, c2⟩
    cases b
    · exact c1.of (fun y _ => ⟨rfl, rfl⟩)
    · exact c1.of (fun y _ => ⟨rfl, rfl⟩)
theorem TAB.se0 {u : RS} {n : Int64} (h : TAB u) (h0 : 0 ≤ seI u) (h4 : seI u < 460) (g0 : 0 ≤ slI u) (g4 : slI u < 460) : TAB (SE u n 0) := by
  obtain ⟨⟨a0, b1, b2, b3, b4⟩, a1, a2, a3, a4, a5, a6, a7, a8, a9⟩ := h
  have e1 := SE.eSE (u := u) (n := n) (c := 0) h0 h4
  have e2 := SE.eSL (u := u) (n := n) (c := 0) g0 g4
  have nn := seN h0
  have is : ∀ (γ : Nat) (b : Bool) (L : List Nat), ISCH u (hd u b γ) L → ISCH (SE u n 0) (hd (SE u n 0) b γ) L := fun γ b L hI => by
    cases b
    · exact hI.of (fun y _ => ⟨rfl, rfl⟩)
    · exact hI.of (fun y _ => ⟨rfl, rfl⟩)
  refine ⟨⟨fun γ b hγ => ?_, DJ.of a0 b1 (Int.le_refl _) (fun γ b L _ h1 _ => is γ b L h1), b2, b3, b4⟩, a1, a2, a3, fun x hx => ?_, fun j hj => ?_, a6, a7, a8, a9⟩
  · obtain ⟨L, l1, l2⟩ := a0 γ b hγ
    exact ⟨L, is γ b L l1, l2⟩
  · rw [e2]
    by_cases c : x = (u.i 38).toNatClampNeg
    · subst c
      have e40 : gv (SE u n 0) 40 (u.i 38).toNatClampNeg = slI u := by unfold gv; rw [SE.a40]; rfl
      rw [e40, SE.a41]
      refine ⟨g0, by omega, ⟨fun ⟨j, j1, j2⟩ => ?_, fun q => absurd rfl q⟩⟩
      have := (a5 j j1).2
      have j2 : gv u 36 j = slI u := j2
      omega
    · have := a4 x (by rw [e1] at hx; omega)
      have e40 : gv (SE u n 0) 40 x = gv u 40 x := by unfold gv; rw [SE.lo c]
      rw [e40, SE.lo c]
      exact ⟨this.1, by omega, this.2.2⟩
  · have := a5 j hj
    rw [e2]
    exact ⟨this.1, by have := this.2; show gv u 36 j < slI u + 1; omega⟩
theorem SNW.se {s u : RS} {n : Int64} {c : Int32} (h : SNW s u) (h0 : 0 ≤ seI u) (h4 : seI u < 460) (g0 : 0 ≤ slI u) (g4 : slI u < 460) (hs : slI s ≤ slI u) : SNW s (SE u n c) := by
  have e1 := SE.eSE (u := u) (n := n) (c := c) h0 h4
  have e2 := SE.eSL (u := u) (n := n) (c := c) g0 g4
  have nn := seN h0
  refine ⟨by have := h.1; omega, fun x x1 x2 => ?_⟩
  by_cases c9 : x = (u.i 38).toNatClampNeg
  · subst c9
    have e40 : gv (SE u n c) 40 (u.i 38).toNatClampNeg = slI u := by unfold gv; rw [SE.a40]; rfl
    omega
  · have e40 : gv (SE u n c) 40 x = gv u 40 x := by unfold gv; rw [SE.lo c9]
    rw [e40]
    exact h.2 x x1 (by omega)
/-- a step, a value, an instruction -/
theorem TS.e1 {t : Nat} {s R v W : RS} {o9 x : Int32} (k1 : KP t s R) (te : TE R v) (k2 : KP t R v) (tn : TN v) (k3 : KP t v W) (hg : goI W ≤ goI v) (h0 : 0 ≤ cdI s) (cR : cdI R = cdI s + 1) (cW : cdI W = cdI v + 1) (e0 : W.a 21 (cdI s).toNat = 1) (e21 : W.a 21 (cdI v).toNat = o9) (e22 : W.a 22 (cdI v).toNat = x) (ho : ¬ o9 = 36) (e38 : R.i 38 = s.i 38) (d1 : R.i 52 = s.i 52) (d2 : v.i 52 = s.i 52) (f1 : fr s ≤ fr R) (f2 : fr R + 1 ≤ fr v) (f9 : fr v ≤ 900) (hJ : ∀ (f : RS) (C : Nat → Bool) (g : Gh) (h o lv : Nat) (rs : List Rec), AGC s W C → g.isC = C → YE s rs → (W.i 3).toInt ≤ (f.i 3).toInt → ENS s W f h o lv rs g → gv f 21 (cdI v).toNat = o9.toInt → gv f 22 (cdI v).toNat = x.toInt → gv f 23 (cdI v).toNat = gv W 23 (cdI v).toNat → ((cdI v).toNat : Int) + 1 = cdI W → OKI f g (cdI v).toNat (h + 1, o, lv, false, rs)) : TS s W := by
  intro f C hA hC h o lv rs hx hy
  have cRv := k2.2.1.1
  have cv : 0 ≤ cdI v := by omega
  obtain ⟨A1, C1⟩ := AG.mid hA hC k1 k2 k3 tn hg
  have hx2 := hx.2.1
  have c1 := te f C A1 C1 h o lv rs (hx.up h d1 f1 (by omega) (by omega))
  have ek : ((cdI v).toNat : Int) = cdI v := Int.toNat_of_nonneg cv
  obtain ⟨g1, g2, g3, g4⟩ := hA.cell (k := (cdI v).toNat) (o := o9) (x := x) (by omega) (by omega) e21 e22 ho
  have c3 : COD f C (cdI v).toNat (h + 1) o lv rs (ENS s W f h o lv rs) := by
    refine COD.ins (hx.up (h + 1) d2 (by omega) f9 (by omega)) g4 (fun g hg' hE => ⟨?_, hE.1.1 _ (by omega)⟩)
    exact hJ f C g h o lv rs hC hg' hy hA.2.2.2.1 hE g1 g2 g3 (by omega)
  have rest : COD f C (cdI s + 1) h o lv rs (ENS s W f h o lv rs) := by
    rw [← cR]
    exact COD.seq c1.cod c3 (fun g _ hE => hE) (fun g _ hE hF => ⟨hE.1.mid k1 e38 (by omega), by rw [ek] at hF; exact hF⟩)
  exact COD.step hA hx h0 (by omega) e0 (fun g _ hE => hE.1.1) rest
/-- a step and an instruction -/
theorem TS.i1 {s W : RS} {o9 x : Int32} (h0 : 0 ≤ cdI s) (cW : cdI W = cdI s + 2) (e0 : W.a 21 (cdI s).toNat = 1) (e21 : W.a 21 (cdI s + 1).toNat = o9) (e22 : W.a 22 (cdI s + 1).toNat = x) (ho : ¬ o9 = 36) (hJ : ∀ (f : RS) (C : Nat → Bool) (g : Gh) (h o lv : Nat) (rs : List Rec), AGC s W C → g.isC = C → ENS s W f h o lv rs g → gv f 21 (cdI s + 1).toNat = o9.toInt → gv f 22 (cdI s + 1).toNat = x.toInt → ((cdI s + 1).toNat : Int) + 1 = cdI W → OKI f g (cdI s + 1).toNat (h, o, lv, false, rs)) : TS s W := by
  intro f C hA hC h o lv rs hx hy
  have ek : ((cdI s + 1).toNat : Int) = cdI s + 1 := Int.toNat_of_nonneg (by omega)
  obtain ⟨g1, g2, g3, g4⟩ := hA.cell (k := (cdI s + 1).toNat) (o := o9) (x := x) (by omega) (by omega) e21 e22 ho
  have c3 : COD f C (cdI s + 1).toNat h o lv rs (ENS s W f h o lv rs) := COD.ins hx g4 (fun g hg' hE => ⟨hJ f C g h o lv rs hC hg' hE g1 g2 (by omega), hE.1.1 _ (by omega)⟩)
  rw [ek] at c3
  exact COD.step hA hx h0 (by omega) e0 (fun g _ hE => hE.1.1) c3
theorem TS.i0 {s W : RS} (h0 : 0 ≤ cdI s) (cW : cdI W = cdI s + 1) (e0 : W.a 21 (cdI s).toNat = 1) (hr : W.i 75 = 1) : TS s W := by
  intro f C hA hC h o lv rs hx hy
  have rest : COD f C (cdI s + 1) h o lv rs (ENS s W f h o lv rs) := COD.nil (fun g _ hE => by rw [← cW]; exact hE.2.1 hr)
  exact COD.step hA hx h0 (by omega) e0 (fun g _ hE => hE.1.1) rest
