/-! both readers: whether a goal is gone to; what stands behind a statement -/
theorem e_jt {N a : Nat} {X : CS} {xc : Int32} {bb : Int} {j : Int32 × CS} (hb : (xc = 0 ∧ bb = 0) ∨ (xc = 1 ∧ bb = 1)) (h1 : 0 ≤ (X.o a 1).toInt ∧ (X.o a 1).toInt < 1000) (ej : f_X6_jumpTo N X a xc = some j) : j.2 = X ∧ j.1.toInt = 2 * (X.o a 1).toInt + bb := by
  have e0 : (0 : Int32).toInt = 0 := by decide
  have e1 : (1 : Int32).toInt = 1 := by decide
  have m2 := mul2 h1.1 (by omega)
  unfold f_X6_jumpTo at ej
  obtain ⟨-, ej⟩ := hf_ite ej
  rcases hb with ⟨z1, z2⟩ | ⟨z1, z2⟩
  · rw [if_pos z1] at ej
    rw [← Option.some.inj ej]
    refine ⟨rfl, ?_⟩
    show (2 * X.o a 1 + 0).toInt = _
    rw [toInt_add (by rw [m2, e0]; omega) (by rw [m2, e0]; omega), m2, e0, z2]
  · rw [if_neg (by rw [z1]; decide)] at ej
    rw [← Option.some.inj ej]
    refine ⟨rfl, ?_⟩
    show (2 * X.o a 1 + 1).toInt = _
    rw [toInt_add (by rw [m2, e1]; omega) (by rw [m2, e1]; omega), m2, e1, z2]
theorem y_gone5 {N a : Nat} {S : CS} {xc : Int32} {bb : Int} (hb : (xc = 0 ∧ bb = 0) ∨ (xc = 1 ∧ bb = 1)) (h1 : 0 ≤ (S.o a 1).toInt ∧ (S.o a 1).toInt < 1000) (h55 : (S.i 55).toInt < 160) : ∀ (n : Nat) (x3 : Int32) (P : Int32 × CS), 0 ≤ x3.toInt → f_X6_isGoneTo_5 N n S a xc x3 = some P → P.2 = S ∧ ((P.1 = 1 ∧ ∃ i : Nat, x3.toInt ≤ (i : Int) ∧ (i : Int) < (S.i 55).toInt ∧ (S.a 52 i).toInt = 2 * (S.o a 1).toInt + bb) ∨ (P.1 = 0 ∧ ∀ i : Nat, x3.toInt ≤ (i : Int) → (i : Int) < (S.i 55).toInt → ¬ (S.a 52 i).toInt = 2 * (S.o a 1).toInt + bb))
  | 0, _, _, _, e => by cases e
  | n + 1, x3, P, h0, e => by
    have e' : b_X6_isGoneTo_5 N (f_X6_isGoneTo_5 N n) S a xc x3 = some P := e
    unfold b_X6_isGoneTo_5 at e'
    by_cases c : S.i 55 ≤ x3
    · rw [if_pos c] at e'
      rw [← Option.some.inj e']
      refine ⟨rfl, Or.inr ⟨rfl, fun i i1 i2 => ?_⟩⟩
      have := le_int c
      omega
    · rw [if_neg c] at e'
      have c' : x3.toInt < (S.i 55).toInt := by
        by_cases q : (S.i 55).toInt ≤ x3.toInt
        · exact absurd (Int32.le_iff_toInt_le.mpr q) c
        · omega
      obtain ⟨j, ej, e'⟩ := hf_bind e'
      obtain ⟨j1, j2⟩ := e_jt hb h1 ej
      rw [j1] at e'
      have ga : gAt (S.a 52) 160 x3 = S.a 52 x3.toNatClampNeg := by
        unfold gAt
        exact if_pos ⟨h0, by omega⟩
      rw [ga] at e'
      have xn : ((x3.toNatClampNeg : Nat) : Int) = x3.toInt := by
        show ((x3.toInt.toNat : Nat) : Int) = _
        omega
      by_cases q : S.a 52 x3.toNatClampNeg = j.1
      · rw [if_pos q] at e'
        rw [← Option.some.inj e']
        exact ⟨rfl, Or.inl ⟨rfl, x3.toNatClampNeg, by omega, by omega, by rw [q]; exact j2⟩⟩
      · rw [if_neg q] at e'
        have x1 : (x3 + 1).toInt = x3.toInt + 1 := ad1 h0 (by omega)
        obtain ⟨r1, r2⟩ := y_gone5 hb h1 h55 n (x3 + 1) P (by omega) e'
        refine ⟨r1, ?_⟩
        rcases r2 with ⟨r2, i, i1, i2, i3⟩ | ⟨r2, r3⟩
        · exact Or.inl ⟨r2, i, by omega, i2, i3⟩
        · refine Or.inr ⟨r2, fun i i1 i2 i3 => ?_⟩
          by_cases k : (i : Int) = x3.toInt
          · have ei : i = x3.toNatClampNeg := by omega
            rw [ei] at i3
            exact q (Int32.toInt_inj.mp (by omega))
          · exact r3 i (by omega) i2 i3
/-- at the row on top: as the goal's flag -/
theorem y_gone {N : Nat} {d : Int32} {B : CS} {b : RS} {t0 : Nat} {L : List CEL} {x bb : Int} {S : CS} {s : RS} {c1 : CEL} {xc : Int32} {P : Int32 × CS} (hC : COR d B b t0 (c1 :: L) x S s) (gw : isGo (S.o c1.2.1 0)) (hb : (xc = 0 ∧ bb = 0) ∨ (xc = 1 ∧ bb = 1)) (e : f_X6_isGoneTo N S c1.2.1 xc = some P) : P.2 = S ∧ P.1 = flg s (ceG c1) bb := by
  have hv := hC.1
  obtain ⟨sj1, sj2, sj3, sj4, sj5, sj6⟩ := id hv.sj
  have hi := i11_hi hv
  obtain ⟨h1, h2, -, -, -, -, h7, h8⟩ := id hC.2.2.1
  obtain ⟨k1, k2, k3, k4, -⟩ := h7 c1 List.mem_cons_self
  have ord := STK.ord L c1 _ _ _ hC.2.1
  unfold f_X6_isGoneTo at e
  obtain ⟨-, e⟩ := hf_ite e
  obtain ⟨r1, r2⟩ := y_gone5 hb ⟨by omega, by omega⟩ (by omega) N _ P k3 e
  refine ⟨r1, ?_⟩
  have hb' : bb = 0 ∨ bb = 1 := by
    rcases hb with ⟨-, z⟩ | ⟨-, z⟩
    · exact Or.inl z
    · exact Or.inr z
  rcases r2 with ⟨r2, i, i1, i2, i3⟩ | ⟨r2, r3⟩
  · rw [r2]
    rcases h1 c1 List.mem_cons_self gw bb hb' i ⟨i2, i3, i1⟩ with z | ⟨k, q, hq, -, l, -⟩
    · exact z.symm
    · exfalso
      rcases List.mem_cons.mp hq with e0 | hq
      · rw [e0] at l
        omega
      · have := ord q hq
        omega
  · rw [r2]
    rcases h8.2 c1 List.mem_cons_self gw bb with z | z
    · exact z.symm
    · obtain ⟨i, ⟨i1, i2, -⟩, i3, -⟩ := h2 c1 List.mem_cons_self gw bb hb' z
      exact absurd i2 (r3 i i3 i1)
theorem wid.one {v : Int32} (h : isOne v) : wid v = 1 := by
  rcases h with h | h | h | h | h | h | h <;> rw [h] <;> rfl
/-- what the row on top waits for, behind a statement -/
theorem MOD.rt {S : CS} {s : RS} {c : CEL} (lw : LOW S s c) (tp : tpI s = (ceT c : Int) + (wid (S.o c.2.1 0) : Int) - 1) (h75 : s.i 75 = S.i 36) (h36 : S.i 36 = 0 ∨ S.i 36 = 1) (hm : NMC c S) : MOR c S s := by
  refine ⟨?_, h36⟩
  by_cases one : isOne (S.o c.2.1 0)
  · refine Or.inr (⟨one, lw.2.2.2 (Or.inl one), ?_, h75, hm⟩)
    rw [wid.one one] at tp
    rw [tp]
    omega
  · obtain ⟨z1, z2⟩ := lw.2.2.1 one
    exact Or.inl ⟨one, lw.1, tp, z2, Or.inr ⟨z1, h75⟩, fun q => ⟨(lw.2.1 q).1, lw.2.2.2 (Or.inr q)⟩⟩
