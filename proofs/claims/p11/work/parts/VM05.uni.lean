/-! both machines: the plain instructions side by side -/
/-- the map of names: cells against slots -/
def NMP (nm : Nat → Nat → Prop) : Prop := (∀ c l : Nat, nm c l → c < 720 ∧ l < 460) ∧ ∀ c l c' l' : Nat, nm c l → nm c' l' → (c = c' ↔ l = l')
/-- both go on: so many values, at these places -/
def MCO (nm : Nat → Nat → Prop) (s : CS) (r : RS) (h p q : Nat) : Prop := ((s.i 72 = -1 ∧ s.i 73 = 0) ∧ (s.i 66).toInt = (p : Int) ∧ (r.i 92).toInt = (q : Int)) ∧ MVS s r h ∧ MTR s r ∧ ∀ c l : Nat, nm c l → s.a 59 c = r.a 84 l
/-- what the plain instructions leave alone -/
def EXC (nm : Nat → Nat → Prop) (s R : CS) : Prop := (∀ j : Nat, j ≠ 65 → j ≠ 66 → j ≠ 69 → j ≠ 70 → R.i j = s.i j) ∧ (∀ k : Nat, k ≠ 59 → k ≠ 60 → k ≠ 64 → R.a k = s.a k) ∧ (R.r = s.r ∧ R.w = s.w ∧ R.o = s.o ∧ R.ot = s.ot ∧ R.oa = s.oa) ∧ ∀ k : Nat, (∀ l : Nat, ¬ nm k l) → R.a 59 k = s.a 59 k
def EXV (nm : Nat → Nat → Prop) (r V : RS) : Prop := (∀ j : Nat, j ≠ 80 → j ≠ 81 → j ≠ 92 → j ≠ 93 → V.i j = r.i j) ∧ (∀ k : Nat, k ≠ 82 → k ≠ 83 → k ≠ 84 → k ≠ 94 → V.a k = r.a k) ∧ (∀ l : Nat, (∀ c : Nat, ¬ nm c l) → V.a 84 l = r.a 84 l) ∧ (r.i 80).toInt ≤ (V.i 80).toInt
theorem le_80 {a b : Int32} (h : b = a) : a.toInt ≤ b.toInt := by
  rw [h]
  exact Int.le_refl _
theorem EXC.tr {nm : Nat → Nat → Prop} {s R T : CS} (h : EXC nm s R) (g : EXC nm R T) : EXC nm s T := by
  obtain ⟨h1, h2, ⟨h3, h4, h5, h6, h7⟩, h8⟩ := h
  obtain ⟨g1, g2, ⟨g3, g4, g5, g6, g7⟩, g8⟩ := g
  exact ⟨fun j a b c d => (g1 j a b c d).trans (h1 j a b c d), fun k a b c => (g2 k a b c).trans (h2 k a b c), ⟨g3.trans h3, g4.trans h4, g5.trans h5, g6.trans h6, g7.trans h7⟩, fun k a => (g8 k a).trans (h8 k a)⟩
theorem EXV.tr {nm : Nat → Nat → Prop} {s R T : RS} (h : EXV nm s R) (g : EXV nm R T) : EXV nm s T := ⟨fun j a b c d => (g.1 j a b c d).trans (h.1 j a b c d), fun k a b c d => (g.2.1 k a b c d).trans (h.2.1 k a b c d), fun l a => (g.2.2.1 l a).trans (h.2.2.1 l a), Int.le_trans h.2.2.2 g.2.2.2⟩
def rNx (r : RS) : RS := RS.setI r 92 (r.i 92 + 1)
theorem cPu_i {s : CS} {v : Int32} {j : Nat} (h : j ≠ 65) : (cPu s v).i j = s.i j := ci_ne (CS.putA s 60 (gPut (s.a 60) 600 (s.i 65) v)) 65 (s.i 65 + 1) h
theorem cPu_a {s : CS} {v : Int32} {k : Nat} (h : k ≠ 60) : (cPu s v).a k = s.a k := if_neg h
theorem cPo_i {s : CS} {j : Nat} (h : j ≠ 65) : (cPo s).i j = s.i j := ci_ne s 65 (s.i 65 - 1) h
theorem cNx_i {s : CS} {j : Nat} (h : j ≠ 66) : (cNx s).i j = s.i j := ci_ne s 66 (s.i 66 + 1) h
theorem rPu_i {r : RS} {v : Int32} {j : Nat} (h : j ≠ 93) : (rPu r v).i j = r.i j := ri_ne (s := RS.setA r 94 (r.i 93).toNatClampNeg v) h
theorem rPu_a {r : RS} {v : Int32} {k : Nat} (h : k ≠ 94) : (rPu r v).a k = r.a k := setA_nk (s := r) h
theorem rPo_i {r : RS} {j : Nat} (h : j ≠ 93) : (rPo r).i j = r.i j := ri_ne h
theorem rNx_i {r : RS} {j : Nat} (h : j ≠ 92) : (rNx r).i j = r.i j := ri_ne h
theorem MCO.nx {nm : Nat → Nat → Prop} {s : CS} {r : RS} {h p q : Nat} (m : MCO nm s r h p q) (hp : p < 2000) (hq : q < 4000) : MVS (cNx s) (rNx r) h ∧ MTR (cNx s) (rNx r) ∧ ((cNx s).i 66).toInt = ((p + 1 : Nat) : Int) ∧ ((rNx r).i 92).toInt = ((q + 1 : Nat) : Int) := by
  obtain ⟨⟨-, m1, m2⟩, m3, m4, -⟩ := m
  refine ⟨m3.of (cNx_i (by decide)) rfl (rNx_i (by decide)) rfl, m4.of (cNx_i (by decide)) (cNx_i (by decide)) rfl (rNx_i (by decide)) (rNx_i (by decide)) rfl rfl, ?_, ?_⟩
  · unfold cNx
    rw [ci_at, ad1 (by omega) (by omega)]
    omega
  · unfold rNx
    rw [ri_at, ad1 (by omega) (by omega)]
    omega
theorem MCO.clq {nm : Nat → Nat → Prop} {s : CS} {r : RS} {h p q : Nat} (m : MCO nm s r h p q) : (r.i 92).toNatClampNeg = q := cl_nat m.1.2.2
/-- a value is put -/
theorem un_put {nm : Nat → Nat → Prop} {s : CS} {r : RS} {h p q : Nat} (m : MCO nm s r h p q) (hp : p < 2000) (hq : q < 4000) (hh : h < 600) (v : Int32) : MCO nm (cPu (cNx s) v) (rPu (rNx r) v) (h + 1) (p + 1) (q + 1) ∧ EXC nm s (cPu (cNx s) v) ∧ EXV nm r (rPu (rNx r) v) := by
  obtain ⟨n1, n2, n3, n4⟩ := m.nx hp hq
  obtain ⟨⟨⟨m1, m2⟩, -, -⟩, -, -, m5⟩ := m
  refine ⟨⟨⟨⟨?_, ?_⟩, ?_, ?_⟩, n1.push hh v, ?_, ?_⟩, ⟨fun j h1 h2 h3 h4 => ?_, fun k h1 h2 h3 => ?_, ⟨rfl, rfl, rfl, rfl, rfl⟩, fun k _ => congrFun (cPu_a (by decide)) k⟩, ⟨fun j h1 h2 h3 h4 => ?_, fun k h1 h2 h3 h4 => ?_, fun l _ => congrFun (rPu_a (by decide)) l, le_80 ((rPu_i (by decide)).trans (rNx_i (by decide)))⟩⟩
  · rw [cPu_i (by decide), cNx_i (by decide)]
    exact m1
  · rw [cPu_i (by decide), cNx_i (by decide)]
    exact m2
  · rw [cPu_i (by decide)]
    exact n3
  · rw [rPu_i (by decide)]
    exact n4
  · exact n2.of (cPu_i (by decide)) (cPu_i (by decide)) (cPu_a (by decide)) (rPu_i (by decide)) (rPu_i (by decide)) (rPu_a (by decide)) (rPu_a (by decide))
  · intro c l hc
    rw [cPu_a (by decide), rPu_a (by decide)]
    exact m5 c l hc
  · rw [cPu_i h1, cNx_i h2]
  · rw [cPu_a h2]
    rfl
  · rw [rPu_i h4, rNx_i h3]
  · rw [rPu_a h4]
    rfl
/-- a value is taken -/
theorem un_tak {nm : Nat → Nat → Prop} {s : CS} {r : RS} {h p q : Nat} (m : MCO nm s r (h + 1) p q) (hp : p < 2000) (hq : q < 4000) : MCO nm (cPo (cNx s)) (rPo (rNx r)) h (p + 1) (q + 1) ∧ EXC nm s (cPo (cNx s)) ∧ EXV nm r (rPo (rNx r)) ∧ cTp s = rTp r := by
  obtain ⟨n1, n2, n3, n4⟩ := m.nx hp hq
  obtain ⟨⟨⟨m1, m2⟩, -, -⟩, m3, -, m5⟩ := m
  refine ⟨⟨⟨⟨?_, ?_⟩, ?_, ?_⟩, n1.pop, ?_, m5⟩, ⟨fun j h1 h2 h3 h4 => ?_, fun k h1 h2 h3 => rfl, ⟨rfl, rfl, rfl, rfl, rfl⟩, fun _ _ => rfl⟩, ⟨fun j h1 h2 h3 h4 => ?_, fun k h1 h2 h3 h4 => rfl, fun _ _ => rfl, le_80 ((rPo_i (by decide)).trans (rNx_i (by decide)))⟩, m3.top.1⟩
  · rw [cPo_i (by decide), cNx_i (by decide)]
    exact m1
  · rw [cPo_i (by decide), cNx_i (by decide)]
    exact m2
  · rw [cPo_i (by decide)]
    exact n3
  · rw [rPo_i (by decide)]
    exact n4
  · exact n2.of (cPo_i (by decide)) (cPo_i (by decide)) rfl (rPo_i (by decide)) (rPo_i (by decide)) rfl rfl
  · rw [cPo_i h1, cNx_i h2]
  · rw [rPo_i h4, rNx_i h3]
/-- one after the other, at one place: values alone -/
theorem un_vs {nm : Nat → Nat → Prop} {s S : CS} {r R : RS} {h h' p q : Nat} (m : MCO nm s r h p q) (v : MVS S R h') (e : EXC nm s S) (g : EXV nm r R) (e59 : S.a 59 = s.a 59) (e84 : R.a 84 = r.a 84) (e66 : S.i 66 = s.i 66) (e92 : R.i 92 = r.i 92) (t : MTR S R) : MCO nm S R h' p q := by
  obtain ⟨⟨⟨m1, m2⟩, m3, m4⟩, -, -, m7⟩ := m
  refine ⟨⟨⟨?_, ?_⟩, ?_, ?_⟩, v, t, ?_⟩
  · rw [e.1 72 (by decide) (by decide) (by decide) (by decide)]
    exact m1
  · rw [e.1 73 (by decide) (by decide) (by decide) (by decide)]
    exact m2
  · rw [e66]
    exact m3
  · rw [e92]
    exact m4
  · rw [e59, e84]
    exact m7
/-- PUSH -/
theorem un_push {N : Nat} {nm : Nat → Nat → Prop} {s : CS} {r V : RS} {R : Unit × CS} {h p q : Nat} (m : MCO nm s r h p q) (hp : p < 2000) (hq : q < 4000) (hh : h < 600) (o1 : cOp s = 0) (o2 : r.a 21 q = 2) (ea : cAr s = r.a 22 q) (e : f_X3_instruction N s = some R) (g : f_X12_act N (rNx r) (r.i 92) = some V) : MCO nm R.2 V (h + 1) (p + 1) (q + 1) ∧ EXC nm s R.2 ∧ EXV nm r V := by
  have e1 := xi_0 o1 e
  have g1 := xa_2 (r := rNx r) (by rw [m.clq]; exact o2) g
  have z : (rNx r).a 22 (r.i 92).toNatClampNeg = cAr s := by
    rw [m.clq, ea]
    rfl
  rw [z] at g1
  rw [e1, g1]
  exact un_put m hp hq hh _
/-- LOAD -/
theorem un_load {N : Nat} {nm : Nat → Nat → Prop} {s : CS} {r V : RS} {R : Unit × CS} {h p q c l : Nat} (nn : NMP nm) (m : MCO nm s r h p q) (hp : p < 2000) (hq : q < 4000) (hh : h < 600) (o1 : cOp s = 1) (o2 : r.a 21 q = 3) (ec : (cAr s).toInt = (c : Int)) (el : (r.a 22 q).toInt = (l : Int)) (hc : nm c l) (e : f_X3_instruction N s = some R) (g : f_X12_act N (rNx r) (r.i 92) = some V) : MCO nm R.2 V (h + 1) (p + 1) (q + 1) ∧ EXC nm s R.2 ∧ EXV nm r V := by
  have e1 := xi_1 o1 e
  have g1 := xa_3 (r := rNx r) (by rw [m.clq]; exact o2) g
  obtain ⟨c7, -⟩ := nn.1 c l hc
  have z1 : gAt (s.a 59) 720 (cAr s) = s.a 59 c := by
    unfold gAt
    rw [if_pos ⟨by omega, by omega⟩, cl_nat ec]
  have z2 : (rNx r).a 84 ((rNx r).a 22 (r.i 92).toNatClampNeg).toNatClampNeg = s.a 59 c := by
    rw [m.clq]
    show r.a 84 (r.a 22 q).toNatClampNeg = s.a 59 c
    rw [cl_nat el]
    exact (m.2.2.2 c l hc).symm
  rw [z1] at e1
  rw [z2] at g1
  rw [e1, g1]
  exact un_put m hp hq hh _
/-- NEGATE, NOT -/
theorem un_neg {N : Nat} {nm : Nat → Nat → Prop} {s : CS} {r V : RS} {R : Unit × CS} {h p q : Nat} (m : MCO nm s r (h + 1) p q) (hp : p < 2000) (hq : q < 4000) (o : (cOp s = 4 ∧ r.a 21 q = 7) ∨ (cOp s = 5 ∧ r.a 21 q = 10)) (e : f_X3_instruction N s = some R) (g : f_X12_act N (rNx r) (r.i 92) = some V) : MCO nm R.2 V (h + 1) (p + 1) (q + 1) ∧ EXC nm s R.2 ∧ EXV nm r V := by
  obtain ⟨t1, t2, t3, t4⟩ := un_tak m hp hq
  have h6 := m.2.1.1.2.2
  have key : ∀ v : Int32, MCO nm (cPu (cPo (cNx s)) v) (rPu (rPo (rNx r)) v) (h + 1) (p + 1) (q + 1) ∧ EXC nm s (cPu (cPo (cNx s)) v) ∧ EXV nm r (rPu (rPo (rNx r)) v) := fun v => by
    have a1 : EXC nm (cPo (cNx s)) (cPu (cPo (cNx s)) v) := ⟨fun j h1 h2 h3 h4 => cPu_i h1, fun k h1 h2 h3 => cPu_a h2, ⟨rfl, rfl, rfl, rfl, rfl⟩, fun k _ => congrFun (cPu_a (by decide)) k⟩
    have a2 : EXV nm (rPo (rNx r)) (rPu (rPo (rNx r)) v) := ⟨fun j h1 h2 h3 h4 => rPu_i h4, fun k h1 h2 h3 h4 => rPu_a h4, fun l _ => congrFun (rPu_a (by decide)) l, le_80 (rPu_i (by decide))⟩
    exact ⟨un_vs t1 (t1.2.1.push (by omega) v) a1 a2 (cPu_a (by decide)) (rPu_a (by decide)) (cPu_i (by decide)) (rPu_i (by decide)) (t1.2.2.1.of (cPu_i (by decide)) (cPu_i (by decide)) (cPu_a (by decide)) (rPu_i (by decide)) (rPu_i (by decide)) (rPu_a (by decide)) (rPu_a (by decide))), t2.tr a1, t3.tr a2⟩
  have tp : rTp (rNx r) = cTp s := t4.symm
  rcases o with ⟨o1, o2⟩ | ⟨o1, o2⟩
  · have e1 := xi_4 o1 e
    have g1 := xa_7 (r := rNx r) (by rw [m.clq]; exact o2) g
    rw [tp] at g1
    rw [e1, g1]
    exact key _
  · have e1 := xi_5 o1 e
    have g1 := xa_10 (r := rNx r) (by rw [m.clq]; exact o2) g
    rw [tp] at g1
    rw [e1, g1]
    exact key _
